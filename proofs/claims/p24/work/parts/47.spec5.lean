section SPECS
/-- what a command does with the game -/
def sp_ex (w a b c : Int) (m : Int → Int) : Int → Int :=
  if w = 0 then sp_up m (583 + a) b
  else if w = 1 then sp_up m (583 + a) (if m (583 + a) + b < 0 then 0 else if m (583 + a) + b > 99 then 99 else m (583 + a) + b)
  else if w = 2 then sp_up (sp_up m (583 + a) (m (583 + b))) (583 + b) (m (583 + a))
  else if w = 3 then fun j => if 583 + a ≤ j ∧ j ≤ 583 + b then c else m j
  else fun j => if j = 583 + a then m (583 + b) else if 583 + a < j ∧ j ≤ 583 + b then m (j - 1) else m j
/-- what holds of a command without a fault -/
def sp_cok (hi w a b c : Int) : Prop := (0 ≤ w ∧ w ≤ 4) ∧ (0 ≤ a ∧ a ≤ hi) ∧ (w = 0 → 0 ≤ b ∧ b ≤ 99) ∧ (w = 1 → -99 ≤ b ∧ b ≤ 99) ∧ (w = 2 → 0 ≤ b ∧ b ≤ hi) ∧ (3 ≤ w → a ≤ b ∧ b ≤ hi) ∧ (0 ≤ c ∧ c ≤ 99)
/-- where the commands begin -/
def sp_ps (t : Int → Int) (L : Int) : Nat → Int
  | 0 => sp_sk t L 0
  | i + 1 => sp_cn t L (sp_ps t L i)
/-- c commands without a fault; then the end, or a command with the fault φ -/
def sp_sc (t : Int → Int) (L hi : Int) (c : Nat) (φ : Int) : Prop := (∀ i, i < c → sp_ps t L i < L ∧ sp_cf t L hi (sp_ps t L i) = -1) ∧ ((φ = -1 ∧ L ≤ sp_ps t L c) ∨ (φ ≠ -1 ∧ sp_ps t L c < L ∧ sp_cf t L hi (sp_ps t L c) = φ))
/-- the game after the first c commands -/
def sp_run (t : Int → Int) (L : Int) (m : Int → Int) : Nat → Int → Int
  | 0 => m
  | i + 1 => sp_ex (sp_cw t L (sp_ps t L i)) (sp_ca t L (sp_ps t L i)) (sp_cb t L (sp_ps t L i)) (sp_cc t L (sp_ps t L i)) (sp_run t L m i)
theorem sp_sc_unique {t : Int → Int} {L hi : Int} {c c' : Nat} {φ φ' : Int} (h : sp_sc t L hi c φ) (h' : sp_sc t L hi c' φ') : c = c' ∧ φ = φ' := by
  have key : ∀ {c c' : Nat} {φ φ' : Int}, sp_sc t L hi c φ → sp_sc t L hi c' φ' → ¬ c < c' := by
    intro c c' φ φ' h h' hl
    obtain ⟨z1, z2⟩ := h'.1 c hl
    rcases h.2 with ⟨-, y⟩ | ⟨y1, -, y3⟩
    · omega
    · omega
  have e : c = c' := by have := key h h'; have := key h' h; omega
  subst e
  refine ⟨rfl, ?_⟩
  rcases h.2 with ⟨y1, y2⟩ | ⟨y1, y2, y3⟩ <;> rcases h'.2 with ⟨z1, z2⟩ | ⟨z1, z2, z3⟩ <;> omega
theorem sp_wo_len {t : Int → Int} {p q : Int} (h : sp_wo t p q ≠ -1) : p + 3 ≤ q := by
  unfold sp_wo sp_isw at h
  by_cases e : q - p = 3 ∨ q - p = 4
  · omega
  · exfalso
    apply h
    have e3 : decide (q - p = (3 : Nat)) = false := decide_eq_false (by omega)
    have e4 : decide (q - p = (4 : Nat)) = false := decide_eq_false (by omega)
    simp [e3, e4]
    grind
theorem sp_al_bd {t : Int → Int} {L p : Int} (h : p ≤ L) : 0 ≤ sp_al t L p ∧ p + sp_al t L p ≤ L := by
  unfold sp_al
  have hm : 0 ≤ sp_mi t L p ∧ p + sp_mi t L p ≤ L := by
    unfold sp_mi; split
    · rename_i e; have := sp_nx_lt e (by decide); omega
    · omega
  have := sp_nl_bd (t := t) hm.2
  omega
theorem sp_cp_bd {t : Int → Int} {L p : Int} (h : p ≤ L) (hc : sp_cw t L p ≠ -1) : p + 3 ≤ sp_cp4 t L p ∧ sp_cp4 t L p ≤ L := by
  have h0 := sp_lt_bd (t := t) h
  have h0' : p + 3 ≤ sp_lt t L p := sp_wo_len hc
  have h1 : p + 3 ≤ sp_cp1 t L p ∧ sp_cp1 t L p ≤ L := by
    unfold sp_cp1
    have := sp_sk_bd (t := t) h0.2
    omega
  have h2 : p + 3 ≤ sp_cp2 t L p ∧ sp_cp2 t L p ≤ L := by
    unfold sp_cp2
    have a := sp_nl_bd (t := t) h1.2
    have := sp_sk_bd (t := t) a.2
    omega
  have h3 : p + 3 ≤ sp_cp3 t L p ∧ sp_cp3 t L p ≤ L := by
    unfold sp_cp3
    split
    · have a := sp_al_bd (t := t) h2.2
      have := sp_sk_bd (t := t) a.2
      omega
    · have a := sp_nl_bd (t := t) h2.2
      have := sp_sk_bd (t := t) a.2
      omega
  unfold sp_cp4
  split
  · have a := sp_nl_bd (t := t) h3.2
    have := sp_sk_bd (t := t) a.2
    omega
  · exact h3
theorem sp_cf_ok {t : Int → Int} {L hi p : Int} (h : p ≤ L) (h0 : 0 ≤ p) (hf : sp_cf t L hi p = -1) : sp_cw t L p ≠ -1 ∧ sp_cf1 t L hi p = -1 ∧ sp_cf2 t L hi p = -1 ∧ sp_cf3 t L p = -1 ∧ sp_nx t L (sp_cp4 t L p) = 59 := by
  unfold sp_cf at hf
  by_cases hc : sp_cw t L p = -1
  · rw [if_pos hc] at hf; omega
  · rw [if_neg hc] at hf
    have := sp_cp_bd h hc
    grind
theorem sp_cn_bd {t : Int → Int} {L hi p : Int} (h : p ≤ L) (h0 : 0 ≤ p) (hf : sp_cf t L hi p = -1) : p + 4 ≤ sp_cn t L p ∧ sp_cn t L p ≤ L := by
  obtain ⟨h1, -, -, -, h2⟩ := sp_cf_ok h h0 hf
  have := sp_cp_bd h h1
  have h3 := sp_nx_lt h2 (by decide)
  have := sp_sk_bd (t := t) (L := L) (p := sp_cp4 t L p + 1) (by omega)
  unfold sp_cn
  omega
theorem sp_nf_ok {t : Int → Int} {L p lo hi : Int} (h0 : 0 ≤ p) (h : p ≤ L) (hf : sp_nf t L p lo hi = -1) : lo ≤ sp_nv t L p ∧ sp_nv t L p ≤ hi := by
  unfold sp_nf at hf
  split at hf
  · omega
  · rename_i h1
    exact Decidable.of_not_not fun q => h1 (Or.inr q)
theorem sp_cmd_ok {t : Int → Int} {L hi p : Int} (h : p ≤ L) (h0 : 0 ≤ p) (hf : sp_cf t L hi p = -1) : sp_cok hi (sp_cw t L p) (sp_ca t L p) (sp_cb t L p) (sp_cc t L p) := by
  obtain ⟨hc, h1, h2, h3, h4⟩ := sp_cf_ok h h0 hf
  have hcw : 0 ≤ sp_cw t L p ∧ sp_cw t L p ≤ 4 := by
    revert hc; unfold sp_cw sp_wo; grind
  have b0 := sp_lt_bd (t := t) h
  have b1 : 0 ≤ sp_cp1 t L p ∧ sp_cp1 t L p ≤ L := by
    unfold sp_cp1
    have := sp_sk_bd (t := t) b0.2
    omega
  have b2 : 0 ≤ sp_cp2 t L p ∧ sp_cp2 t L p ≤ L := by
    unfold sp_cp2
    have a := sp_nl_bd (t := t) b1.2
    have := sp_sk_bd (t := t) a.2
    omega
  unfold sp_cf1 at h1
  have z1 := sp_nf_ok b1.1 b1.2 h1
  have zv := sp_nv_bd t L (sp_cp2 t L p)
  have zv1 := sp_nv_bd t L (sp_cp2 t L p + 1)
  have zv3 := sp_nv_bd t L (sp_cp3 t L p)
  refine ⟨hcw, z1, ?_, ?_, ?_, ?_, ?_⟩
  · intro e; unfold sp_cb; rw [if_neg (by omega)]; exact zv
  · intro e; unfold sp_cb sp_av; rw [if_pos e]; split <;> omega
  · intro e; unfold sp_cb; unfold sp_cf2 at h2
    rw [if_neg (by omega), if_neg (by omega), if_pos e] at h2
    rw [if_neg (by omega)]
    exact sp_nf_ok b2.1 b2.2 h2
  · intro e; unfold sp_cb; unfold sp_cf2 at h2
    rw [if_neg (by omega), if_neg (by omega), if_neg (by omega)] at h2
    rw [if_neg (by omega)]
    exact sp_nf_ok b2.1 b2.2 h2
  · unfold sp_cc; split <;> omega
theorem sp_ps_bd {t : Int → Int} {L hi : Int} (hL : 0 ≤ L) : ∀ {c : Nat}, (∀ i, i < c → sp_ps t L i < L ∧ sp_cf t L hi (sp_ps t L i) = -1) → 4 * (c : Int) ≤ sp_ps t L c ∧ sp_ps t L c ≤ L := by
  intro c
  induction c with
  | zero => intro _; have := sp_sk_bd (t := t) hL; unfold sp_ps; omega
  | succ c ih =>
    intro h
    have a := ih fun i hi => h i (by omega)
    obtain ⟨z1, z2⟩ := h c (by omega)
    have := sp_cn_bd (by omega) (by omega) z2
    unfold sp_ps
    omega
/-- a command without a fault leaves the game sound -/
theorem sp_ex_ok {m : Int → Int} {hi w a b c : Int} (hh : hi ≤ 11) (hv : ∀ j, 0 ≤ j → j ≤ hi → 0 ≤ m (583 + j) ∧ m (583 + j) ≤ 99) (h : sp_cok hi w a b c) : (∀ j, 0 ≤ j → j ≤ hi → 0 ≤ sp_ex w a b c m (583 + j) ∧ sp_ex w a b c m (583 + j) ≤ 99) ∧ ∀ j, (j < 583 ∨ 583 + hi < j) → sp_ex w a b c m j = m j := by
  obtain ⟨h1, h2, h3, h4, h5, h6, h7⟩ := h
  have ha := hv a h2.1 h2.2
  constructor
  · intro j j0 j1
    have hj := hv j j0 j1
    unfold sp_ex sp_up
    by_cases e0 : w = 0
    · rw [if_pos e0]; have := h3 e0; try dsimp only
      split <;> omega
    · rw [if_neg e0]
      by_cases e1 : w = 1
      · rw [if_pos e1]; try dsimp only
        split
        · split
          · omega
          · split <;> omega
        · exact hj
      · rw [if_neg e1]
        by_cases e2 : w = 2
        · rw [if_pos e2]
          have := h5 e2
          have hb := hv b this.1 this.2
          try dsimp only
          split
          · exact ha
          · split
            · exact hb
            · exact hj
        · rw [if_neg e2]
          have := h6 (by omega)
          have hb := hv b (by omega) this.2
          by_cases e3 : w = 3
          · rw [if_pos e3]; try dsimp only
            split <;> omega
          · rw [if_neg e3]; try dsimp only
            split
            · exact hb
            · split
              · rw [show 583 + j - 1 = 583 + (j - 1) by omega]; exact hv (j - 1) (by omega) (by omega)
              · exact hj
  · intro j hj
    unfold sp_ex sp_up
    by_cases e0 : w = 0
    · rw [if_pos e0]; try dsimp only
      rw [if_neg (by omega)]
    · rw [if_neg e0]
      by_cases e1 : w = 1
      · rw [if_pos e1]; try dsimp only
        rw [if_neg (by omega)]
      · rw [if_neg e1]
        by_cases e2 : w = 2
        · have := h5 e2; rw [if_pos e2]; try dsimp only
          rw [if_neg (by omega), if_neg (by omega)]
        · have := h6 (by omega)
          rw [if_neg e2]
          by_cases e3 : w = 3
          · rw [if_pos e3]; try dsimp only
            rw [if_neg (by omega)]
          · rw [if_neg e3]; try dsimp only
            rw [if_neg (by omega), if_neg (by omega)]
theorem sp_run_ok {t : Int → Int} {L hi : Int} {m : Int → Int} (hL : 0 ≤ L) (hh : hi ≤ 11) (hv : ∀ j, 0 ≤ j → j ≤ hi → 0 ≤ m (583 + j) ∧ m (583 + j) ≤ 99) : ∀ {c : Nat}, (∀ i, i < c → sp_ps t L i < L ∧ sp_cf t L hi (sp_ps t L i) = -1) → (∀ j, 0 ≤ j → j ≤ hi → 0 ≤ sp_run t L m c (583 + j) ∧ sp_run t L m c (583 + j) ≤ 99) ∧ ∀ j, (j < 583 ∨ 583 + hi < j) → sp_run t L m c j = m j := by
  intro c
  induction c with
  | zero => intro _; exact ⟨hv, fun _ _ => rfl⟩
  | succ c ih =>
    intro h
    have h' := fun i (hi' : i < c) => h i (by omega)
    obtain ⟨a1, a2⟩ := ih h'
    obtain ⟨z1, z2⟩ := h c (by omega)
    have hb := sp_ps_bd hL h'
    obtain ⟨y1, y2⟩ := sp_ex_ok hh a1 (sp_cmd_ok (by omega) (by omega) z2)
    exact ⟨y1, fun j hj => (y2 j hj).trans (a2 j hj)⟩
end SPECS
