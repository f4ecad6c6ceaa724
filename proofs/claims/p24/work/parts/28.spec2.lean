/-- the game, the origin and the settings are sound -/
def sp_wg (m : Int → Int) : Prop := (1 ≤ m 582 ∧ m 582 ≤ 3) ∧ sp_ok (fun j => m (583 + j)) (6 + 2 * m 582) ∧ (m 595 = -1 ∨ (0 ≤ m 595 ∧ sp_slot m (m 595) ≠ -1 ∧ m (29 * sp_slot m (m 595) + 1) ≤ m 582)) ∧ (1 ≤ m 596 ∧ m 596 ≤ 8) ∧ (0 ≤ m 597 ∧ m 597 ≤ 1)
section SPWG
variable {m : Int → Int}
theorem sp_wg.f (h : sp_wg m) : 1 ≤ m 582 ∧ m 582 ≤ 3 := h.1
theorem sp_wg.v (h : sp_wg m) : sp_ok (fun j => m (583 + j)) (6 + 2 * m 582) := h.2.1
theorem sp_wg.o (h : sp_wg m) : m 595 = -1 ∨ (0 ≤ m 595 ∧ sp_slot m (m 595) ≠ -1 ∧ m (29 * sp_slot m (m 595) + 1) ≤ m 582) := h.2.2.1
theorem sp_wg.l (h : sp_wg m) : 1 ≤ m 596 ∧ m 596 ≤ 8 := h.2.2.2.1
theorem sp_wg.r (h : sp_wg m) : 0 ≤ m 597 ∧ m 597 ≤ 1 := h.2.2.2.2
end SPWG
/-- only what is worked at has changed -/
def sp_sq (o : Nat) (f f' : sv_F) : Prop := (∀ x, x ≠ o → x ≠ o + 3 → x ≠ o + 4 → x ≠ o + 5 → x ≠ o + 6 → x ≠ o + 8 → x ≠ o + 9 → f' x = f x) ∧ f' o 2 = f o 2 ∧ f' o 10 = f o 10
section SPSQ
variable {o : Nat} {f f' f2 : sv_F}
theorem sp_sq.rf : sp_sq o f f := ⟨fun _ _ _ _ _ _ _ _ => rfl, rfl, rfl⟩
theorem sp_sq.trans (h : sp_sq o f f') (h2 : sp_sq o f' f2) : sp_sq o f f2 := ⟨fun x a b c d e g i => (h2.1 x a b c d e g i).trans (h.1 x a b c d e g i), h2.2.1.trans h.2.1, h2.2.2.trans h.2.2⟩
theorem sp_sq.m (h : sp_sq o f f') : f' (o + 1) = f (o + 1) := h.1 (o + 1) (by omega) (by omega) (by omega) (by omega) (by omega) (by omega) (by omega)
theorem sp_sq.p (h : sp_sq o f f') : f' (o + 2) = f (o + 2) := h.1 (o + 2) (by omega) (by omega) (by omega) (by omega) (by omega) (by omega) (by omega)
theorem sp_sq.t (h : sp_sq o f f') : f' (o + 7) = f (o + 7) := h.1 (o + 7) (by omega) (by omega) (by omega) (by omega) (by omega) (by omega) (by omega)
theorem sp_rq.sq {m : Int → Int} {n : Int} (h : sp_rq o m n f f') : sp_sq o f f' := ⟨fun x a b c d _ _ _ => h.1 x a b c d, h.2.1 2 (by omega) (by omega), h.2.1 10 (by omega) (by omega)⟩
theorem sp_rq.m {m : Int → Int} {n : Int} (h : sp_rq o m n f f') : f' (o + 1) = f (o + 1) := h.1 (o + 1) (by omega) (by omega) (by omega) (by omega)
theorem sp_rq.w {m : Int → Int} {n : Int} (h : sp_rq o m n f f') : f' (o + 6) = f (o + 6) := h.1 (o + 6) (by omega) (by omega) (by omega) (by omega)
theorem sp_rq.k {m : Int → Int} {n : Int} (h : sp_rq o m n f f') : f' (o + 9) = f (o + 9) := h.1 (o + 9) (by omega) (by omega) (by omega) (by omega)
end SPSQ
/-- how many links a chain has -/
def sp_lf (m : Int → Int) : Nat → Int → Int
  | 0, _ => 0
  | k + 1, n => if n = -1 then 0 else 1 + sp_lf m k (sp_bs m n)
def sp_lk (m : Int → Int) (n : Int) : Int := sp_lf m 30 n
theorem sp_ch_s (m : Int → Int) (n : Int) : ∀ k : Nat, sp_ch m n (k + 1) = sp_ch m (sp_bs m n) k := by
  intro k
  induction k with
  | zero => rfl
  | succ k ih =>
    show sp_bs m (sp_ch m n (k + 1)) = sp_bs m (sp_ch m (sp_bs m n) k)
    rw [ih]
theorem sp_lf_eq (m : Int → Int) : ∀ (q L : Nat) (n : Int), L < q → (∀ k : Nat, k < L → sp_ch m n k ≠ -1) → sp_ch m n L = -1 → sp_lf m q n = L := by
  intro q
  induction q with
  | zero => intro L n h; omega
  | succ q ih =>
    intro L n h h1 h2
    cases L with
    | zero =>
      have : n = -1 := h2
      show (if n = -1 then (0 : Int) else 1 + sp_lf m q (sp_bs m n)) = _
      rw [if_pos this]
      rfl
    | succ L =>
      have : n ≠ -1 := h1 0 (by omega)
      show (if n = -1 then (0 : Int) else 1 + sp_lf m q (sp_bs m n)) = _
      rw [if_neg this, ih L (sp_bs m n) (by omega) (fun k hk => by rw [← sp_ch_s]; exact h1 (k + 1) (by omega)) (by rw [← sp_ch_s]; exact h2)]
      omega
theorem sp_lk_eq {m : Int → Int} {L : Nat} {n : Int} (h : L ≤ 21) (h1 : ∀ k : Nat, k < L → sp_ch m n k ≠ -1) (h2 : sp_ch m n L = -1) : sp_lk m n = L := sp_lf_eq m 30 L n (by omega) h1 h2
theorem sp_rq.l {o : Nat} {f f' : sv_F} {m : Int → Int} {n : Int} (h : sp_rq o m n f f') : f' o 7 = sp_lk m n ∧ 1 ≤ sp_lk m n ∧ sp_lk m n ≤ 21 := by
  obtain ⟨-, -, -, L, h1, h2, h3, h4, h5, -⟩ := h
  rw [sp_lk_eq h2 h3 h4, h5]
  omega
/-- sums, and the greatest -/
def sp_cnt (q : Int → Int) : Nat → Int
  | 0 => 0
  | k + 1 => sp_cnt q k + q k
theorem sp_cnt_s {q : Int → Int} {i : Int} (h : 0 ≤ i) : sp_cnt q (i + 1).toNat = sp_cnt q i.toNat + q i := by
  rw [show (i + 1).toNat = i.toNat + 1 by omega]
  show sp_cnt q i.toNat + q (i.toNat : Int) = _
  rw [show ((i.toNat : Nat) : Int) = i by omega]
theorem sp_cnt_in {q : Int → Int} {b : Int} : ∀ k : Nat, (∀ i : Int, 0 ≤ i → i < k → 0 ≤ q i ∧ q i ≤ b) → 0 ≤ sp_cnt q k ∧ sp_cnt q k ≤ b * k := by
  intro k
  induction k with
  | zero => intro _; simp [sp_cnt]
  | succ k ih =>
    intro h
    have h1 := ih (fun i a c => h i a (by omega))
    have h2 := h k (by omega) (by omega)
    show 0 ≤ sp_cnt q k + q k ∧ sp_cnt q k + q k ≤ b * ((k + 1 : Nat) : Int)
    rw [show ((k + 1 : Nat) : Int) = (k : Int) + 1 by omega, Int.mul_add, Int.mul_one]
    omega
theorem sp_cnt_congr {q q' : Int → Int} {n : Int} (h : ∀ i, 0 ≤ i → i < n → q i = q' i) : sp_cnt q n.toNat = sp_cnt q' n.toNat := by
  have : ∀ k : Nat, (k : Int) ≤ n → sp_cnt q k = sp_cnt q' k := by
    intro k
    induction k with
    | zero => intro _; rfl
    | succ k ih =>
      intro hk
      show sp_cnt q k + q k = sp_cnt q' k + q' k
      rw [ih (by omega), h k (by omega) (by omega)]
  by_cases hn : 0 ≤ n
  · exact this _ (by omega)
  · rw [show n.toNat = 0 by omega]
    rfl
def sp_mx (q : Int → Int) : Nat → Int
  | 0 => 0
  | k + 1 => max (sp_mx q k) (q k)
theorem sp_mx_s {q : Int → Int} {i : Int} (h : 0 ≤ i) : sp_mx q (i + 1).toNat = max (sp_mx q i.toNat) (q i) := by
  rw [show (i + 1).toNat = i.toNat + 1 by omega]
  show max (sp_mx q i.toNat) (q (i.toNat : Int)) = _
  rw [show ((i.toNat : Nat) : Int) = i by omega]
theorem sp_mx_in {q : Int → Int} {b : Int} (hb : 0 ≤ b) : ∀ k : Nat, (∀ i : Int, 0 ≤ i → i < k → q i ≤ b) → 0 ≤ sp_mx q k ∧ sp_mx q k ≤ b := by
  intro k
  induction k with
  | zero => intro _; simp [sp_mx]; exact hb
  | succ k ih =>
    intro h
    have h1 := ih (fun i a c => h i a (by omega))
    have h2 := h k (by omega) (by omega)
    show 0 ≤ max (sp_mx q k) (q k) ∧ max (sp_mx q k) (q k) ≤ b
    omega
theorem sp_mx_congr {q q' : Int → Int} {n : Int} (h : ∀ i, 0 ≤ i → i < n → q i = q' i) : sp_mx q n.toNat = sp_mx q' n.toNat := by
  have : ∀ k : Nat, (k : Int) ≤ n → sp_mx q k = sp_mx q' k := by
    intro k
    induction k with
    | zero => intro _; rfl
    | succ k ih =>
      intro hk
      show max (sp_mx q k) (q k) = max (sp_mx q' k) (q' k)
      rw [ih (by omega), h k (by omega) (by omega)]
  by_cases hn : 0 ≤ n
  · exact this _ (by omega)
  · rw [show n.toNat = 0 by omega]
    rfl
/-- the first with the least d among those that p allows, if it is less than b: (place, least) -/
def sp_am (p : Int → Prop) [DecidablePred p] (d : Int → Int) (b : Int) : Nat → Int × Int
  | 0 => (-1, b)
  | k + 1 => if p k ∧ d k < (sp_am p d b k).2 then ((k : Int), d k) else sp_am p d b k
theorem sp_am_s {p : Int → Prop} [DecidablePred p] {d : Int → Int} {b i : Int} (h : 0 ≤ i) : sp_am p d b (i + 1).toNat = if p i ∧ d i < (sp_am p d b i.toNat).2 then (i, d i) else sp_am p d b i.toNat := by
  rw [show (i + 1).toNat = i.toNat + 1 by omega]
  show (if p (i.toNat : Int) ∧ d (i.toNat : Int) < (sp_am p d b i.toNat).2 then ((i.toNat : Int), d (i.toNat : Int)) else sp_am p d b i.toNat) = _
  rw [show ((i.toNat : Nat) : Int) = i by omega]
theorem sp_am_spec {p : Int → Prop} [DecidablePred p] {d : Int → Int} {b : Int} : ∀ k : Nat, ((sp_am p d b k).1 = -1 ∧ (sp_am p d b k).2 = b ∧ ∀ i : Int, 0 ≤ i → i < k → p i → b ≤ d i) ∨ (0 ≤ (sp_am p d b k).1 ∧ (sp_am p d b k).1 < k ∧ p (sp_am p d b k).1 ∧ (sp_am p d b k).2 = d (sp_am p d b k).1 ∧ (sp_am p d b k).2 < b) := by
  intro k
  induction k with
  | zero => exact Or.inl ⟨rfl, rfl, fun i a c => by omega⟩
  | succ k ih =>
    unfold sp_am
    by_cases hq : p k ∧ d k < (sp_am p d b k).2
    · rw [if_pos hq]
      refine Or.inr ⟨by simp, by simp; omega, hq.1, rfl, ?_⟩
      show d k < b
      rcases ih with ⟨-, h2, -⟩ | ⟨-, -, -, -, h2⟩ <;> omega
    · rw [if_neg hq]
      rcases ih with ⟨h1, h2, h3⟩ | ⟨h1, h2, h3, h4, h5⟩
      · refine Or.inl ⟨h1, h2, fun i a c hp => ?_⟩
        by_cases hi : i = k
        · subst hi
          have : ¬ d k < (sp_am p d b k).2 := fun z => hq ⟨hp, z⟩
          omega
        · exact h3 i a (by omega) hp
      · exact Or.inr ⟨h1, by omega, h3, h4, h5⟩
theorem sp_am_congr {p p' : Int → Prop} [DecidablePred p] [DecidablePred p'] {d d' : Int → Int} {b n : Int} (hp : ∀ i, 0 ≤ i → i < n → (p i ↔ p' i)) (hd : ∀ i, 0 ≤ i → i < n → p i → d i = d' i) : sp_am p d b n.toNat = sp_am p' d' b n.toNat := by
  have : ∀ k : Nat, (k : Int) ≤ n → sp_am p d b k = sp_am p' d' b k := by
    intro k
    induction k with
    | zero => intro _; rfl
    | succ k ih =>
      intro hk
      show (if p k ∧ d k < (sp_am p d b k).2 then ((k : Int), d k) else sp_am p d b k) = (if p' k ∧ d' k < (sp_am p' d' b k).2 then ((k : Int), d' k) else sp_am p' d' b k)
      rw [ih (by omega)]
      have h1 := hp k (by omega) (by omega)
      by_cases hq : p k
      · rw [hd k (by omega) (by omega) hq]
        have hq' := h1.mp hq
        simp [hq, hq']
      · have hq' : ¬ p' k := fun z => hq (h1.mpr z)
        simp [hq, hq']
  by_cases hn : 0 ≤ n
  · exact this _ (by omega)
  · rw [show n.toNat = 0 by omega]
    rfl
/-- what is told of the kept state at a place -/
def sp_we (m : Int → Int) (s : Int) : Int := if m (29 * s + 3) = -1 then m (29 * s + 4) else 2 + 2 * m (29 * s + 4)
def sp_bo (m : Int → Int) (n : Int) : Int := sp_cnt (fun s => if m (29 * s + 3) = n then 1 else 0) (m 580).toNat
def sp_wes (m : Int → Int) : Int := sp_cnt (sp_we m) (m 580).toNat
def sp_part (m : Int → Int) (s w : Int) : Int := if w = 0 then m (29 * s + 1) else if w = 1 then m (29 * s + 2) else if w = 2 then m (29 * s + 3) else if w = 3 then m (29 * s + 4) else if w = 4 then sp_lk m (m (29 * s)) else if w = 5 then (if sp_R m (m (29 * s)) = -1 then 1 else 0) else if w = 6 then sp_we m s else sp_bo m (m (29 * s))
/-- the game's values -/
def sp_gv (m : Int → Int) : Int → Int := fun j => m (583 + j)
/-- in how many values the game differs from the kept state n -/
def sp_gd (m : Int → Int) (n : Int) : Int := sp_dn (sp_rz (sp_V m n) (m (29 * sp_slot m n + 1)) (m 582)) (sp_gv m) (6 + 2 * m 582).toNat
def sp_near (m : Int → Int) : Prop := m 595 ≠ -1 ∧ sp_R m (m 595) = -1 ∧ sp_lk m (m 595) < m 596 ∧ sp_gd m (m 595) ≤ 6
theorem sp_rz_max {v : Int → Int} {a b : Int} : sp_rz v a (max a b) = sp_rz v a b := by
  by_cases h : b ≤ a
  · rw [show max a b = a by omega, sp_rz_self h, sp_rz_self (Int.le_refl a)]
  · rw [show max a b = b by omega]
def sp_any (q : Int → Prop) [DecidablePred q] : Nat → Bool
  | 0 => false
  | k + 1 => sp_any q k || decide (q k)
theorem sp_any_s {q : Int → Prop} [DecidablePred q] {i : Int} (h : 0 ≤ i) : sp_any q (i + 1).toNat = (sp_any q i.toNat || decide (q i)) := by
  rw [show (i + 1).toNat = i.toNat + 1 by omega]
  show (sp_any q i.toNat || decide (q (i.toNat : Int))) = _
  rw [show ((i.toNat : Nat) : Int) = i by omega]
theorem sp_any_iff {q : Int → Prop} [DecidablePred q] : ∀ k : Nat, sp_any q k = true ↔ ∃ i : Int, 0 ≤ i ∧ i < k ∧ q i := by
  intro k
  induction k with
  | zero => exact ⟨fun h => (by cases h), fun ⟨i, h1, h2, _⟩ => (by omega)⟩
  | succ k ih =>
    show (sp_any q k || decide (q k)) = true ↔ _
    rw [Bool.or_eq_true, ih, decide_eq_true_iff]
    constructor
    · rintro (⟨i, h1, h2, h3⟩ | h)
      · exact ⟨i, h1, by omega, h3⟩
      · exact ⟨k, by omega, by omega, h⟩
    · rintro ⟨i, h1, h2, h3⟩
      by_cases hi : i = k
      · subst hi
        exact Or.inr h3
      · exact Or.inl ⟨i, h1, by omega, h3⟩
/-- n is a link of the chain of p -/
def sp_inc (m : Int → Int) (p x : Int) : Prop := ∃ j : Nat, j < (sp_lk m p).toNat ∧ sp_ch m p j = x
/-- the first link of the chain of k that is in that of p too; -1 -/
def sp_fk (m : Int → Int) (k p a : Int) : Prop := ∃ d : Nat, a = sp_ch m k d ∧ (∀ j : Nat, j < d → sp_ch m k j ≠ -1 ∧ ¬ sp_inc m p (sp_ch m k j)) ∧ (a = -1 ∨ sp_inc m p a)
theorem sp_fk_uniq {m : Int → Int} {k p a b : Int} (ha : sp_fk m k p a) (hb : sp_fk m k p b) : a = b := by
  obtain ⟨d, h1, h2, h3⟩ := ha
  obtain ⟨e, g1, g2, g3⟩ := hb
  have hde : d = e := by
    by_cases h : d < e
    · have := g2 d h
      rw [← h1] at this
      rcases h3 with h3 | h3
      · exact absurd h3 this.1
      · exact absurd h3 this.2
    · by_cases h' : e < d
      · have := h2 e h'
        rw [← g1] at this
        rcases g3 with g3 | g3
        · exact absurd g3 this.1
        · exact absurd g3 this.2
      · omega
  rw [h1, g1, hde]
def sp_rdv (m : Int → Int) (k fo i : Int) : Int := if sp_slot m k = -1 ∨ (fo ≠ 0 ∧ ¬ (m (29 * sp_slot m k + 1) ≤ fo ∧ fo ≤ 3)) ∨ i < 0 then -2 else if sp_R m k ≠ -1 then -3 else if i < 6 + 2 * max (m (29 * sp_slot m k + 1)) fo then sp_rz (sp_V m k) (m (29 * sp_slot m k + 1)) fo i else -1
def sp_cau (m : Int → Int) (k d w : Int) : Int := if ¬ (0 ≤ k ∧ k < m 581) ∨ d < 0 ∨ ¬ (0 ≤ w ∧ w ≤ 1) then -2 else if sp_R m k = -1 ∨ sp_lk m k ≤ d ∨ sp_R m (sp_ch m k d.toNat) = -1 then -1 else if w = 0 then sp_R m (sp_ch m k d.toNat) else sp_ch m k d.toNat
def sp_apt (m : Int → Int) (k p : Int) : Int := if sp_slot m k = -1 ∨ sp_slot m p = -1 then -2 else if sp_R m k ≠ -1 ∨ sp_R m p ≠ -1 then -3 else sp_dn (sp_rz (sp_V m p) (m (29 * sp_slot m p + 1)) (max (m (29 * sp_slot m k + 1)) (m (29 * sp_slot m p + 1)))) (sp_rz (sp_V m k) (m (29 * sp_slot m k + 1)) (max (m (29 * sp_slot m k + 1)) (m (29 * sp_slot m p + 1)))) (6 + 2 * max (m (29 * sp_slot m k + 1)) (m (29 * sp_slot m p + 1))).toNat
/-- the place of the nearest -/
def sp_nb (m : Int → Int) : Int × Int := sp_am (fun s => m (29 * s + 1) ≤ m 582 ∧ sp_R m (m (29 * s)) = -1) (fun s => sp_gd m (m (29 * s))) 13 (m 580).toNat
def sp_nst (m : Int → Int) : Int := if (sp_nb m).1 = -1 then -1 else m (29 * (sp_nb m).1)
def sp_who (m : Int → Int) : Int := sp_cnt (fun s => if m (29 * s + 3) = -1 then 1 else 0) (m 580).toNat
def sp_unr (m : Int → Int) : Int := sp_cnt (fun s => if sp_R m (m (29 * s)) = -1 then 0 else 1) (m 580).toNat
def sp_lon (m : Int → Int) : Int := sp_mx (fun s => sp_lk m (m (29 * s))) (m 580).toNat
def sp_count (m : Int → Int) (u tl w : Int) : Int := if w = 0 then m 582 else if w = 1 then m 595 else if w = 2 then sp_sm (sp_gv m) (6 + 2 * m 582).toNat else if w = 3 then m 580 else if w = 4 then sp_who m else if w = 5 then sp_unr m else if w = 6 then sp_wes m else if w = 7 then m 581 else if w = 8 then sp_lon m else if w = 9 then u else if w = 10 then tl else if w = 11 then m 596 else if w = 12 then m 597 else -2
theorem sp_any_inc {m : Int → Int} {p x : Int} {c : Int → Int} {L : Nat} (hL : sp_lk m p = L) (hc : ∀ k : Nat, k < L → c k = sp_ch m p k) : sp_any (fun j => c j = x) L = true ↔ sp_inc m p x := by
  rw [sp_any_iff]
  unfold sp_inc
  rw [hL]
  constructor
  · rintro ⟨i, h1, h2, h3⟩
    refine ⟨i.toNat, by omega, ?_⟩
    have := hc i.toNat (by omega)
    rw [show ((i.toNat : Nat) : Int) = i by omega] at this
    rw [← this]
    exact h3
  · rintro ⟨j, h1, h2⟩
    exact ⟨j, by omega, by omega, by rw [hc j (by omega)]; exact h2⟩
theorem sp_gd_in {m : Int → Int} (hg : 1 ≤ m 582 ∧ m 582 ≤ 3) (n : Int) : 0 ≤ sp_gd m n ∧ sp_gd m n ≤ 12 := by
  have := sp_dn_in (sp_rz (sp_V m n) (m (29 * sp_slot m n + 1)) (m 582)) (sp_gv m) (6 + 2 * m 582).toNat
  unfold sp_gd
  omega
/-- the history when a change is recorded -/
def sp_ku (u : Int) : Int := (if u = 6 then 5 else u) + 1
def sp_kpast (m past : Int → Int) (u : Int) : Int → Int := fun j => if 598 * (if u = 6 then 5 else u) ≤ j ∧ j < 598 * (if u = 6 then 5 else u) + 598 then m (j - 598 * (if u = 6 then 5 else u)) else if u = 6 ∧ 0 ≤ j ∧ j < 2990 then past (j + 598) else past j
/-- a change: recorded; the text and all else stay -/
def sp_chg (o : Nat) (f f' : sv_F) : Prop := (∀ x, (x < o ∨ o + 9 < x) → f' x = f x) ∧ f' (o + 7) = f (o + 7) ∧ f' o 10 = f o 10 ∧ f' (o + 2) = sp_kpast (f (o + 1)) (f (o + 2)) (f o 2) ∧ f' o 2 = sp_ku (f o 2)
/-- all but the table, what it counts and the game stays -/
def sp_raise (m m' : Int → Int) : Prop := (∀ j, 0 ≤ j → j < 582 → m' j = m j) ∧ m' 582 = m 582 + 1 ∧ m' 595 = m 595 ∧ m' 596 = m 596 ∧ m' 597 = m 597 ∧ ∀ j, 0 ≤ j → j < 6 + 2 * (m 582 + 1) → m' (583 + j) = sp_rz (sp_gv m) (m 582) (m 582 + 1) j
def sp_lform (m : Int → Int) (k : Int) : Int := if m 597 = 1 then max (m (29 * sp_slot m k + 1)) (m 582) else m (29 * sp_slot m k + 1)
def sp_load (m : Int → Int) (k : Int) (m' : Int → Int) : Prop := (∀ j, 0 ≤ j → j < 582 → m' j = m j) ∧ m' 582 = sp_lform m k ∧ m' 595 = k ∧ m' 596 = m 596 ∧ m' 597 = m 597 ∧ ∀ j, 0 ≤ j → j < 6 + 2 * sp_lform m k → m' (583 + j) = sp_rz (sp_V m k) (m (29 * sp_slot m k + 1)) (sp_lform m k) j
def sp_rowW (m' : Int → Int) (s n : Int) (w : Int → Int) : Prop := m' (29 * s + 3) = -1 ∧ m' (29 * s + 4) = n ∧ ∀ i, 0 ≤ i → i < n → m' (29 * s + (5 + i)) = i ∧ m' (29 * s + (17 + i)) = w i
def sp_rowD (m' : Int → Int) (s b n : Int) (v w : Int → Int) : Prop := m' (29 * s + 3) = b ∧ m' (29 * s + 4) = sp_dn v w n.toNat ∧ ∀ j, 0 ≤ j → j < n → v j ≠ w j → m' (29 * s + (5 + sp_dn v w j.toNat)) = j ∧ m' (29 * s + (17 + sp_dn v w j.toNat)) = w j
def sp_keep (m m' : Int → Int) : Prop := (∀ j, 0 ≤ j → j < 29 * m 580 → m' j = m j) ∧ m' 580 = m 580 + 1 ∧ m' 581 = m 581 + 1 ∧ (∀ j, 582 ≤ j → j ≤ 594 → m' j = m j) ∧ m' 595 = m 581 ∧ m' 596 = m 596 ∧ m' 597 = m 597 ∧ m' (29 * m 580) = m 581 ∧ m' (29 * m 580 + 1) = m 582 ∧ m' (29 * m 580 + 2) = sp_sm (sp_gv m) (6 + 2 * m 582).toNat ∧ (sp_near m → sp_rowD m' (m 580) (m 595) (6 + 2 * m 582) (sp_rz (sp_V m (m 595)) (m (29 * sp_slot m (m 595) + 1)) (m 582)) (sp_gv m)) ∧ (¬ sp_near m → sp_rowW m' (m 580) (6 + 2 * m 582) (sp_gv m))
theorem sp_ww_row {m w : Int → Int} {s n : Int} (hn : n ≤ 12) : sp_rowW (sp_ww m s n 12 w) s n w := by
  refine ⟨by unfold sp_ww; rw [if_pos rfl], by unfold sp_ww; rw [if_neg (by omega), if_pos rfl], fun i h0 h1 => ⟨?_, ?_⟩⟩
  · unfold sp_ww
    rw [if_neg (by omega), if_neg (by omega), if_pos (by omega), if_pos (by omega)]
    omega
  · unfold sp_ww
    rw [if_neg (by omega), if_neg (by omega), if_neg (by omega), if_pos (by omega), if_pos (by omega)]
    exact congrArg w (by omega)
theorem sp_ww_out {m w : Int → Int} {s n j : Int} (hj : ¬ (29 * s + 3 ≤ j ∧ j < 29 * s + 29)) : sp_ww m s n 12 w j = m j := by
  unfold sp_ww
  rw [if_neg (by omega), if_neg (by omega), if_neg (by omega), if_neg (by omega)]
theorem sp_dn_mono (v w : Int → Int) : ∀ (a b : Nat), a ≤ b → sp_dn v w a ≤ sp_dn v w b := by
  intro a b
  induction b with
  | zero => intro h; rw [show a = 0 by omega]; exact Int.le_refl _
  | succ b ih =>
    intro h
    by_cases hab : a = b + 1
    · rw [hab]; exact Int.le_refl _
    · have := ih (by omega)
      show _ ≤ sp_dn v w b + (if v b = w b then 0 else 1)
      split <;> omega
theorem sp_wd_row {m v w : Int → Int} {s : Int} : ∀ (k : Nat), k ≤ 12 → ∀ j : Int, 0 ≤ j → j < k → v j ≠ w j → sp_wd m s v w k (29 * s + (5 + sp_dn v w j.toNat)) = j ∧ sp_wd m s v w k (29 * s + (17 + sp_dn v w j.toNat)) = w j := by
  intro k
  induction k with
  | zero => intro _ j h0 h1; omega
  | succ k ih =>
    intro hk j h0 h1 hne
    have hdk := sp_dn_in v w k
    have hdj := sp_dn_in v w j.toNat
    show (if v k = w k then sp_wd m s v w k else sp_up (sp_up (sp_wd m s v w k) (29 * s + (5 + sp_dn v w k)) k) (29 * s + (17 + sp_dn v w k)) (w k)) (29 * s + (5 + sp_dn v w j.toNat)) = j ∧ (if v k = w k then sp_wd m s v w k else sp_up (sp_up (sp_wd m s v w k) (29 * s + (5 + sp_dn v w k)) k) (29 * s + (17 + sp_dn v w k)) (w k)) (29 * s + (17 + sp_dn v w j.toNat)) = w j
    by_cases hj : j = k
    · subst hj
      rw [if_neg hne]
      rw [show ((k : Int)).toNat = k by omega]
      unfold sp_up
      refine ⟨?_, ?_⟩
      · rw [if_neg (by omega), if_pos rfl]
      · rw [if_pos rfl]
    · have h2 := ih (by omega) j h0 (by omega) hne
      have hlt : sp_dn v w j.toNat < sp_dn v w k := by
        have h3 := sp_dn_mono v w (j.toNat + 1) k (by omega)
        have h4 : sp_dn v w (j.toNat + 1) = sp_dn v w j.toNat + (if v (j.toNat : Int) = w (j.toNat : Int) then 0 else 1) := rfl
        rw [show ((j.toNat : Nat) : Int) = j by omega, if_neg hne] at h4
        omega
      split
      · exact h2
      · unfold sp_up
        refine ⟨?_, ?_⟩
        · rw [if_neg (by omega), if_neg (by omega)]
          exact h2.1
        · rw [if_neg (by omega), if_neg (by omega)]
          exact h2.2
theorem sp_rowD_of {m4 v w v' w' : Int → Int} {s b n : Int} (hn0 : 0 ≤ n) (hn : n ≤ 12) (hv : ∀ j, 0 ≤ j → j < n → v j = v' j) (hw : ∀ j, 0 ≤ j → j < n → w j = w' j) : sp_rowD (sp_up (sp_up (sp_wd m4 s v w n.toNat) (29 * s + 3) b) (29 * s + 4) (sp_dn v w n.toNat)) s b n v' w' := by
  have hd : ∀ j, 0 ≤ j → j ≤ n → sp_dn v w j.toNat = sp_dn v' w' j.toNat := fun j h0 h1 => sp_dn_congr (fun i a b => hv i a (by omega)) (fun i a b => hw i a (by omega))
  refine ⟨?_, ?_, fun j h0 h1 hne => ?_⟩
  · unfold sp_up
    rw [if_neg (by omega), if_pos rfl]
  · unfold sp_up
    rw [if_pos rfl]
    exact hd n hn0 (Int.le_refl _)
  · have h2 := sp_wd_row (m := m4) (v := v) (w := w) (s := s) n.toNat (by omega) j h0 (by omega) (by rw [hv j h0 h1, hw j h0 h1]; exact hne)
    have hdj := sp_dn_in v w j.toNat
    rw [← hd j h0 (by omega)]
    unfold sp_up
    refine ⟨?_, ?_⟩
    · rw [if_neg (by omega), if_neg (by omega)]
      exact h2.1
    · rw [if_neg (by omega), if_neg (by omega), ← hw j h0 h1]
      exact h2.2
theorem sp_rowD_out {m4 v w : Int → Int} {s b n j : Int} (hn : n ≤ 12) (hj : ¬ (29 * s + 3 ≤ j ∧ j < 29 * s + 29)) : sp_up (sp_up (sp_wd m4 s v w n.toNat) (29 * s + 3) b) (29 * s + 4) (sp_dn v w n.toNat) j = m4 j := by
  unfold sp_up
  rw [if_neg (by omega), if_neg (by omega)]
  exact sp_wd_out _ (by omega) (by omega)
theorem sp_rowD_mv {m m' v w : Int → Int} {s b n : Int} (hn0 : 0 ≤ n) (hn : n ≤ 12) (h : ∀ j, 29 * s + 3 ≤ j → j < 29 * s + 29 → m' j = m j) (hd : sp_rowD m s b n v w) : sp_rowD m' s b n v w := by
  obtain ⟨h1, h2, h3⟩ := hd
  refine ⟨by rw [h _ (by omega) (by omega)]; exact h1, by rw [h _ (by omega) (by omega)]; exact h2, fun j a1 a2 a3 => ?_⟩
  have hdj := sp_dn_in v w j.toNat
  rw [h _ (by omega) (by omega), h _ (by omega) (by omega)]
  exact h3 j a1 a2 a3
theorem sp_rowW_mv {m m' w : Int → Int} {s n : Int} (hn : n ≤ 12) (h : ∀ j, 29 * s + 3 ≤ j → j < 29 * s + 29 → m' j = m j) (hd : sp_rowW m s n w) : sp_rowW m' s n w := by
  obtain ⟨h1, h2, h3⟩ := hd
  refine ⟨by rw [h _ (by omega) (by omega)]; exact h1, by rw [h _ (by omega) (by omega)]; exact h2, fun j a1 a2 => ?_⟩
  rw [h _ (by omega) (by omega), h _ (by omega) (by omega)]
  exact h3 j a1 a2
theorem sp_rowW_cg {m w w' : Int → Int} {s n : Int} (hw : ∀ j, 0 ≤ j → j < n → w j = w' j) (hd : sp_rowW m s n w) : sp_rowW m s n w' := by
  obtain ⟨h1, h2, h3⟩ := hd
  exact ⟨h1, h2, fun j a1 a2 => by rw [← hw j a1 a2]; exact h3 j a1 a2⟩
theorem sp_keep_of {m m5 : Int → Int} (hc : 0 ≤ m 580 ∧ m 580 < 20) (hg : 1 ≤ m 582 ∧ m 582 ≤ 3) (h1 : ∀ j, ¬ (29 * m 580 ≤ j ∧ j < 29 * m 580 + 29) → m5 j = m j) (h2 : m5 (29 * m 580) = m 581) (h3 : m5 (29 * m 580 + 1) = m 582) (h4 : m5 (29 * m 580 + 2) = sp_sm (sp_gv m) (6 + 2 * m 582).toNat) (h5 : sp_near m → sp_rowD m5 (m 580) (m 595) (6 + 2 * m 582) (sp_rz (sp_V m (m 595)) (m (29 * sp_slot m (m 595) + 1)) (m 582)) (sp_gv m)) (h6 : ¬ sp_near m → sp_rowW m5 (m 580) (6 + 2 * m 582) (sp_gv m)) :
    sp_keep m (sp_up (sp_up (sp_up m5 580 (m 580 + 1)) 595 (m 581)) 581 (m 581 + 1)) := by
  have e : ∀ j, j ≠ 580 → j ≠ 595 → j ≠ 581 → sp_up (sp_up (sp_up m5 580 (m 580 + 1)) 595 (m 581)) 581 (m 581 + 1) j = m5 j := fun j a b c => by
    unfold sp_up
    rw [if_neg c, if_neg b, if_neg a]
  refine ⟨fun j a b => ?_, ?_, ?_, fun j a b => ?_, ?_, ?_, ?_, ?_, ?_, ?_, fun hn => ?_, fun hn => ?_⟩
  · rw [e j (by omega) (by omega) (by omega), h1 j (by omega)]
  · simp [sp_up]
  · simp [sp_up]
  · rw [e j (by omega) (by omega) (by omega), h1 j (by omega)]
  · simp [sp_up]
  · rw [e _ (by omega) (by omega) (by omega), h1 _ (by omega)]
  · rw [e _ (by omega) (by omega) (by omega), h1 _ (by omega)]
  · rw [e _ (by omega) (by omega) (by omega), h2]
  · rw [e _ (by omega) (by omega) (by omega), h3]
  · rw [e _ (by omega) (by omega) (by omega), h4]
  · exact sp_rowD_mv (by omega) (by omega) (fun j a b => e j (by omega) (by omega) (by omega)) (h5 hn)
  · exact sp_rowW_mv (by omega) (fun j a b => e j (by omega) (by omega) (by omega)) (h6 hn)
