/-! the law's own picture of a game and of what is kept -/
section LWSPEC
/-- a form up, in a row that holds its form at 12 -/
def lw_up (v : Int → Int) : Int → Int := fun j => if j = 12 then v 12 + 1 else if v 12 = 1 then sp_r1 v j else sp_r2 v j
def lw_to (v : Int → Int) (F : Int) : Int → Int := fun j => if j = 12 then max (v 12) F else sp_rz v (v 12) F j
theorem lw_to_id {v : Int → Int} {F : Int} (h : F ≤ v 12) : lw_to v F = v := by
  funext j
  unfold lw_to
  by_cases e : j = 12
  · rw [if_pos e, e]; omega
  · rw [if_neg e, sp_rz_self h]
theorem lw_rz_cg {v w : Int → Int} {a b : Int} (h : ∀ j, j ≠ 12 → v j = w j) : ∀ j, j ≠ 12 → sp_rz v a b j = sp_rz w a b j := by
  intro j hj
  have a0 := h 0 (by decide)
  have a1 := h 1 (by decide)
  have a2 := h 2 (by decide)
  have a4 := h 4 (by decide)
  have a7 := h 7 (by decide)
  have a9 := h 9 (by decide)
  have aj := h j hj
  unfold sp_rz
  by_cases h1 : a ≤ 1 ∧ 2 ≤ b
  · by_cases h2 : a ≤ 2 ∧ 3 ≤ b
    · simp only [if_pos h1, if_pos h2, sp_r1, sp_r2]; grind
    · simp only [if_pos h1, if_neg h2, sp_r1]; grind
  · by_cases h2 : a ≤ 2 ∧ 3 ≤ b
    · simp only [if_neg h1, if_pos h2, sp_r2]; grind
    · simp only [if_neg h1, if_neg h2]; exact aj
theorem lw_to_up {v : Int → Int} {F : Int} (h1 : 1 ≤ v 12) (h2 : v 12 < F) (h3 : F ≤ 3) : lw_to (lw_up v) F = lw_to v F := by
  funext j
  have e12 : lw_up v 12 = v 12 + 1 := if_pos rfl
  unfold lw_to
  rw [e12]
  by_cases e : j = 12
  · rw [if_pos e, if_pos e]; omega
  · rw [if_neg e, if_neg e]
    by_cases h : v 12 = 1
    · rw [h, sp_rz_1 (by omega)]
      exact lw_rz_cg (fun i hi => by unfold lw_up; rw [if_neg hi, if_pos h]) j e
    · rw [show v 12 = 2 by omega, show F = 3 by omega, sp_rz_2 (by decide)]
      exact lw_rz_cg (fun i hi => by unfold lw_up; rw [if_neg hi, if_neg h]) j e
theorem lw_up_ok {v : Int → Int} (h1 : 1 ≤ v 12 ∧ v 12 ≤ 2) (h : sp_ok v (6 + 2 * v 12)) : sp_ok (lw_up v) (6 + 2 * lw_up v 12) := by
  have e12 : lw_up v 12 = v 12 + 1 := if_pos rfl
  intro j j0 j1
  rw [e12] at j1
  unfold lw_up
  rw [if_neg (by omega)]
  by_cases e : v 12 = 1
  · rw [if_pos e]; rw [e] at h j1; exact sp_r1_ok h j j0 j1
  · rw [if_neg e]
    have e2 : v 12 = 2 := by omega
    rw [e2] at h j1; exact sp_r2_ok h j j0 j1
theorem lw_to_ok {v : Int → Int} {F : Int} (h1 : 1 ≤ v 12) (h2 : v 12 ≤ F) (h3 : F ≤ 3) (h : sp_ok v (6 + 2 * v 12)) : sp_ok (lw_to v F) (6 + 2 * F) := by
  intro j j0 j1
  unfold lw_to
  rw [if_neg (by omega)]
  exact sp_rz_ok h1 h2 h3 h j j0 j1
/-- how many of the first places are among a row's entries; the i-th value that is packed -/
def lw_c (w : Int) (k : Nat) : Int := sp_cnt (lw_b w) k
def lw_k (q : Int → Int) (s i : Int) : Int := q (8 * s + 5 + i / 4) / lw_p (i % 4) % 128
theorem lw_c_s {w i : Int} (h : 0 ≤ i) : lw_c w (i + 1).toNat = lw_c w i.toNat + lw_b w i := sp_cnt_s h
theorem lw_c_in (w : Int) (k : Nat) : 0 ≤ lw_c w k ∧ lw_c w k ≤ k := by
  have := sp_cnt_in (q := lw_b w) (b := 1) k (fun i _ _ => by rcases lw_b01 w i with h | h <;> rw [h] <;> omega)
  unfold lw_c
  omega
theorem lw_c_mono (w : Int) : ∀ (a d : Nat), lw_c w a ≤ lw_c w (a + d) := by
  intro a d
  induction d with
  | zero => exact Int.le_refl _
  | succ d ih =>
    have : lw_c w (a + (d + 1)) = lw_c w (a + d) + lw_b w ((a + d : Nat) : Int) := rfl
    rcases lw_b01 w ((a + d : Nat) : Int) with h | h <;> rw [this, h] <;> omega
theorem lw_c_lt {w p : Int} {n : Nat} (h0 : 0 ≤ p) (h1 : p < n) (hb : lw_b w p = 1) : lw_c w p.toNat < lw_c w n := by
  have h2 := lw_c_mono w (p + 1).toNat (n - (p + 1).toNat)
  rw [show (p + 1).toNat + (n - (p + 1).toNat) = n by omega, lw_c_s h0, hb] at h2
  omega
theorem lw_c_hit (w : Int) : ∀ (n : Nat) (i : Int), 0 ≤ i → i < lw_c w n → ∃ p : Int, 0 ≤ p ∧ p < n ∧ lw_b w p = 1 ∧ lw_c w p.toNat = i := by
  intro n
  induction n with
  | zero => intro i h0 h1; have : lw_c w 0 = 0 := rfl; omega
  | succ n ih =>
    intro i h0 h1
    have e : lw_c w (n + 1) = lw_c w n + lw_b w (n : Int) := rfl
    by_cases h : i < lw_c w n
    · obtain ⟨p, a, b, c, d⟩ := ih i h0 h
      exact ⟨p, a, by omega, c, d⟩
    · rcases lw_b01 w (n : Int) with hb | hb
      · omega
      · exact ⟨n, by omega, by omega, hb, by rw [show ((n : Int)).toNat = n by omega]; omega⟩
/-- entries laid over a row, by the bits -/
theorem lw_en {v pl va : Int → Int} {w : Int} (hp : ∀ p, 0 ≤ p → p < 12 → lw_b w p = 1 → pl (lw_c w p.toNat) = p) {j : Int} (h0 : 0 ≤ j) (h1 : j < 12) : sp_en v pl va (lw_c w 12).toNat j = if lw_b w j = 1 then va (lw_c w j.toNat) else v j := by
  have hc := lw_c_in w 12
  have hj := lw_c_in w j.toNat
  have hit : ∀ i : Int, 0 ≤ i → i < (((lw_c w 12).toNat : Nat) : Int) → pl i = j → lw_b w j = 1 ∧ i = lw_c w j.toNat := by
    intro i i0 i1 he
    obtain ⟨p, a, b, c, d⟩ := lw_c_hit w 12 i i0 (by omega)
    have := hp p a b c
    rw [d, he] at this
    subst this
    exact ⟨c, d.symm⟩
  by_cases hb : lw_b w j = 1
  · rw [if_pos hb]
    have hlt := lw_c_lt (n := 12) h0 h1 hb
    exact sp_en_in _ ⟨_, hj.1, by omega, hp j h0 h1 hb⟩ (fun i i0 i1 he => by rw [(hit i i0 i1 he).2])
  · rw [if_neg hb]
    exact sp_en_out _ fun i i0 i1 he => hb (hit i i0 i1 he).1
/-- the law's row of a kept state -/
def lw_row (q m : Int → Int) (s : Int) : Prop := (q (8 * s) = m (29 * s + 1) ∧ q (8 * s + 1) = m (29 * s + 2) ∧ q (8 * s + 2) = m (29 * s + 3) ∧ q (8 * s + 4) = m (29 * s + 4)) ∧ (0 ≤ q (8 * s + 3) ∧ q (8 * s + 3) < 4096) ∧ lw_c (q (8 * s + 3)) 12 = m (29 * s + 4) ∧ (∀ p, 0 ≤ p → p < 12 → lw_b (q (8 * s + 3)) p = 1 → m (29 * s + (5 + lw_c (q (8 * s + 3)) p.toNat)) = p ∧ lw_k q s (lw_c (q (8 * s + 3)) p.toNat) = m (29 * s + (17 + lw_c (q (8 * s + 3)) p.toNat))) ∧ ∀ t, 5 ≤ t → t < 8 → 0 ≤ q (8 * s + t) ∧ q (8 * s + t) < 268435456
/-- the law's picture of all kept states; of the game -/
def lw_q (q m : Int → Int) : Prop := (m 581 = m 580 ∧ m 580 ≤ 7) ∧ (∀ s, 0 ≤ s → s < m 580 → m (29 * s) = s ∧ lw_row q m s) ∧ ∀ s, m 580 ≤ s → s < 8 → ∀ t, 5 ≤ t → t < 8 → q (8 * s + t) = 0
def lw_g (g m : Int → Int) : Prop := (∀ j, 0 ≤ j → j < 6 + 2 * m 582 → g j = m (583 + j)) ∧ g 12 = m 582 ∧ g 13 = m 595 ∧ g 14 = m 596 ∧ g 15 = m 597 ∧ g 16 = m 580
variable {q m : Int → Int} {k s : Int}
theorem lw_q.num (h : lw_q q m) (h0 : 0 ≤ s) (h1 : s < m 580) : m (29 * s) = s := (h.2.1 s h0 h1).1
theorem lw_q.row (h : lw_q q m) (h0 : 0 ≤ s) (h1 : s < m 580) : lw_row q m s := (h.2.1 s h0 h1).2
theorem lw_q.slot (h : lw_q q m) (h0 : 0 ≤ k) (h1 : k < m 580) : sp_slot m k = k := sp_slot_eq h0 h1 (h.num h0 h1) fun j a b => by rw [h.num a (by omega)]; omega
theorem lw_q.none (h : lw_q q m) (h1 : k < 0 ∨ m 580 ≤ k) : sp_slot m k = -1 := sp_slot_none fun j a b => by rw [h.num a b]; omega
theorem lw_q.bs (h : lw_q q m) (h0 : 0 ≤ k) (h1 : k < m 580) : sp_bs m k = m (29 * k + 3) := by unfold sp_bs; rw [h.slot h0 h1, if_neg (by omega)]
theorem lw_q.base (h : lw_q q m) (hw : sp_wt m) (h0 : 0 ≤ k) (h1 : k < m 580) : m (29 * k + 3) = -1 ∨ (0 ≤ m (29 * k + 3) ∧ m (29 * k + 3) < k) := by
  have := hw.bas h0 h1
  rw [h.num h0 h1] at this
  exact this
theorem lw_q.ch (h : lw_q q m) (hw : sp_wt m) (h0 : 0 ≤ k) (h1 : k < m 580) : ∀ j : Nat, sp_ch m k j = -1 ∨ (0 ≤ sp_ch m k j ∧ sp_ch m k j + j ≤ k) := by
  intro j
  induction j with
  | zero => exact Or.inr ⟨h0, by show k + 0 ≤ k; omega⟩
  | succ j ih =>
    show sp_bs m (sp_ch m k j) = -1 ∨ (0 ≤ sp_bs m (sp_ch m k j) ∧ sp_bs m (sp_ch m k j) + ((j + 1 : Nat) : Int) ≤ k)
    rcases ih with e | ⟨a, b⟩
    · left; rw [e]; unfold sp_bs; rw [h.none (Or.inl (by decide)), if_pos rfl]
    · rw [h.bs a (by omega)]
      rcases h.base hw a (by omega) with e | ⟨c, d⟩
      · exact Or.inl e
      · exact Or.inr ⟨c, by omega⟩
/-- a row with its entries laid over another -/
def lw_lay (v q : Int → Int) (s w : Int) (n : Int) : Int → Int := fun j => if 0 ≤ j ∧ j < n ∧ lw_b w j = 1 then lw_k q s (lw_c w j.toNat) else v j
theorem lw_lay_0 {v : Int → Int} {w : Int} : lw_lay v q s w 0 = v := by
  funext j; unfold lw_lay; rw [if_neg (by omega)]
theorem lw_lay_1 {v : Int → Int} {w n : Int} (h0 : 0 ≤ n) (h : lw_b w n = 1) : lw_lay v q s w (n + 1) = sp_up (lw_lay v q s w n) n (lw_k q s (lw_c w n.toNat)) := by
  funext j
  unfold lw_lay sp_up
  by_cases e : j = n
  · subst e; rw [if_pos ⟨h0, by omega, h⟩, if_pos rfl]
  · rw [if_neg e]
    dsimp only
    by_cases e2 : 0 ≤ j ∧ j < n ∧ lw_b w j = 1
    · rw [if_pos e2, if_pos ⟨e2.1, by omega, e2.2.2⟩]
    · rw [if_neg e2, if_neg (fun z => e2 ⟨z.1, by omega, z.2.2⟩)]
theorem lw_lay_2 {v : Int → Int} {w n : Int} (h : lw_b w n ≠ 1) : lw_lay v q s w (n + 1) = lw_lay v q s w n := by
  funext j
  unfold lw_lay
  by_cases e : j = n
  · subst e; rw [if_neg (fun z => h z.2.2), if_neg (by omega)]
  · by_cases e2 : 0 ≤ j ∧ j < n ∧ lw_b w j = 1
    · rw [if_pos e2, if_pos ⟨e2.1, by omega, e2.2.2⟩]
    · rw [if_neg e2, if_neg (fun z => e2 ⟨z.1, by omega, z.2.2⟩)]
theorem lw_lay_o {v : Int → Int} {w n j : Int} (h : n ≤ j ∨ j < 0) : lw_lay v q s w n j = v j := by unfold lw_lay; rw [if_neg (by omega)]
theorem lw_lay_en {v u : Int → Int} (hr : lw_row q m s) {j : Int} (h0 : 0 ≤ j) (h1 : j < 12) (hv : lw_b (q (8 * s + 3)) j ≠ 1 → u j = v j) : lw_lay v q s (q (8 * s + 3)) 12 j = sp_en u (fun i => m (29 * s + (5 + i))) (fun i => m (29 * s + (17 + i))) (m (29 * s + 4)).toNat j := by
  obtain ⟨-, -, hc, hp, -⟩ := hr
  rw [← hc, lw_en (fun p a b c => (hp p a b c).1) h0 h1]
  unfold lw_lay
  by_cases hb : lw_b (q (8 * s + 3)) j = 1
  · rw [if_pos ⟨h0, h1, hb⟩, if_pos hb]; exact (hp j h0 h1 hb).2
  · rw [if_neg (fun z => hb z.2.2), if_neg hb]; exact (hv hb).symm
/-- what a row is read as, when it is whole -/
theorem lw_lay_W (h : lw_q q m) (hw : sp_wt m) (h0 : 0 ≤ s) (h1 : s < m 580) (hb : m (29 * s + 3) = -1) (v : Int → Int) : ∀ j, 0 ≤ j → j < 6 + 2 * m (29 * s + 1) → lw_lay v q s (q (8 * s + 3)) 12 j = sp_V m s j := by
  intro j j0 j1
  have hf := hw.frm h0 h1
  have hr := h.row h0 h1
  obtain ⟨w1, w2⟩ := hw.whole h0 h1 hb
  rw [(sp_V_whole hw (by rw [h.slot h0 h1]; omega) (by rw [h.bs h0 h1]; exact hb)).1, h.slot h0 h1]
  refine lw_lay_en hr j0 (by omega) fun hn => ?_
  exfalso
  obtain ⟨-, -, hc, hp, -⟩ := hr
  obtain ⟨p, a, b, c, d⟩ := lw_c_hit (q (8 * s + 3)) 12 j j0 (by omega)
  have e1 := (hp p a (by omega) c).1
  rw [d, w2 j j0 (by omega)] at e1
  rw [e1] at hn
  exact hn c
theorem lw_lay_D (h : lw_q q m) (hw : sp_wt m) (h0 : 0 ≤ s) (h1 : s < m 580) (hb : m (29 * s + 3) ≠ -1) (hR : sp_R m (m (29 * s + 3)) = -1) {v : Int → Int} (hv : ∀ j, 0 ≤ j → j < 6 + 2 * m (29 * s + 1) → v j = sp_rz (sp_V m (m (29 * s + 3))) (m (29 * m (29 * s + 3) + 1)) (m (29 * s + 1)) j) : ∀ j, 0 ≤ j → j < 6 + 2 * m (29 * s + 1) → lw_lay v q s (q (8 * s + 3)) 12 j = sp_V m s j := by
  intro j j0 j1
  have hf := hw.frm h0 h1
  have hr := h.row h0 h1
  have hbs := h.base hw h0 h1
  rw [(sp_V_diff hw (by rw [h.slot h0 h1]; omega) (by rw [h.bs h0 h1]; exact hb) (by rw [h.bs h0 h1]; exact hR)).1, h.bs h0 h1, h.slot h0 h1, h.slot (k := m (29 * s + 3)) (by omega) (by omega)]
  exact lw_lay_en hr j0 (by omega) fun _ => (hv j j0 j1).symm
theorem lw_R (h : lw_q q m) (hw : sp_wt m) (h0 : 0 ≤ s) (h1 : s < m 580) (hb : m (29 * s + 3) = -1 ∨ sp_R m (m (29 * s + 3)) = -1) : sp_R m s = (if sp_sm (sp_V m s) (6 + 2 * m (29 * s + 1)).toNat = m (29 * s + 2) then -1 else 1) ∧ sp_ok (sp_V m s) (6 + 2 * m (29 * s + 1)) := by
  have hsl := h.slot h0 h1
  have hne : sp_slot m s ≠ -1 := by omega
  have hok : sp_bs m s ≠ -1 → sp_R m (sp_bs m s) = -1 := by
    intro e
    rw [h.bs h0 h1] at e ⊢
    rcases hb with hb | hb
    · exact absurd hb e
    · exact hb
  have e2 := sp_V_ok hw (s + 1).toNat s (by omega) hne hok
  rw [hsl] at e2
  refine ⟨?_, e2⟩
  by_cases e : sp_bs m s = -1
  · have := (sp_V_whole hw hne e).2
    rw [hsl] at this
    exact this
  · have := (sp_V_diff hw hne e (hok e)).2
    rw [hsl] at this
    exact this
end LWSPEC
