/-- entries laid over values -/
def sp_en (v pl va : Int → Int) : Nat → Int → Int
  | 0 => v
  | k + 1 => fun j => if j = pl k then va k else sp_en v pl va k j
theorem sp_en_s {v pl va : Int → Int} {i : Int} (h : 0 ≤ i) : sp_en v pl va (i + 1).toNat = fun j => if j = pl i then va i else sp_en v pl va i.toNat j := by
  rw [show (i + 1).toNat = i.toNat + 1 by omega]
  show (fun j => if j = pl (i.toNat : Int) then va (i.toNat : Int) else sp_en v pl va i.toNat j) = _
  rw [show ((i.toNat : Nat) : Int) = i by omega]
theorem sp_en_congr {v w pl va : Int → Int} {n : Int} (h : ∀ j, 0 ≤ j → j < n → v j = w j) : ∀ (k : Nat) (j : Int), 0 ≤ j → j < n → sp_en v pl va k j = sp_en w pl va k j := by
  intro k
  induction k with
  | zero => exact h
  | succ k ih =>
    intro j h0 h1
    show (if j = pl k then va k else sp_en v pl va k j) = (if j = pl k then va k else sp_en w pl va k j)
    rw [ih j h0 h1]
theorem sp_en_ok {v pl va : Int → Int} {n : Int} (h : sp_ok v n) : ∀ (k : Nat), (∀ i : Int, 0 ≤ i → i < k → 0 ≤ va i ∧ va i ≤ 99) → sp_ok (sp_en v pl va k) n := by
  intro k
  induction k with
  | zero => intro _; exact h
  | succ k ih =>
    intro hv j h0 h1
    show 0 ≤ (if j = pl k then va k else sp_en v pl va k j) ∧ (if j = pl k then va k else sp_en v pl va k j) ≤ 99
    split
    · exact hv k (by omega) (by omega)
    · exact ih (fun i a b => hv i a (by omega)) j h0 h1
/-- entries that are all the values -/
theorem sp_en_all {v pl va : Int → Int} : ∀ (k : Nat), (∀ i : Int, 0 ≤ i → i < k → pl i = i) → ∀ j : Int, 0 ≤ j → j < k → sp_en v pl va k j = va j := by
  intro k
  induction k with
  | zero => intro _ j h0 h1; omega
  | succ k ih =>
    intro hp j h0 h1
    show (if j = pl k then va k else sp_en v pl va k j) = va j
    rw [hp k (by omega) (by omega)]
    split
    · next h => rw [h]
    · exact ih (fun i a b => hp i a (by omega)) j h0 (by omega)
/-- the base of a number; -1 -/
def sp_bs (m : Int → Int) (n : Int) : Int := if sp_slot m n = -1 then -1 else m (29 * sp_slot m n + 3)
def sp_ch (m : Int → Int) (n : Int) : Nat → Int
  | 0 => n
  | k + 1 => sp_bs m (sp_ch m n k)
/-- the table of kept states is sound -/
def sp_wt (m : Int → Int) : Prop := (0 ≤ m 580 ∧ m 580 ≤ 20) ∧ (0 ≤ m 581 ∧ m 581 ≤ 99) ∧ (∀ s, 0 ≤ s → s < m 580 → 0 ≤ m (29 * s) ∧ m (29 * s) < m 581 ∧ 1 ≤ m (29 * s + 1) ∧ m (29 * s + 1) ≤ 3 ∧ (m (29 * s + 3) = -1 ∨ (0 ≤ m (29 * s + 3) ∧ m (29 * s + 3) < m (29 * s)))) ∧ (∀ s t, 0 ≤ s → s < t → t < m 580 → m (29 * s) < m (29 * t)) ∧ (∀ s, 0 ≤ s → s < m 580 → m (29 * s + 3) = -1 → m (29 * s + 4) = 6 + 2 * m (29 * s + 1) ∧ ∀ i, 0 ≤ i → i < m (29 * s + 4) → m (29 * s + (5 + i)) = i) ∧ (∀ s, 0 ≤ s → s < m 580 → 0 ≤ m (29 * s + 4) ∧ m (29 * s + 4) ≤ 12 ∧ ∀ i, 0 ≤ i → i < m (29 * s + 4) → 0 ≤ m (29 * s + (5 + i)) ∧ m (29 * s + (5 + i)) < 6 + 2 * m (29 * s + 1) ∧ 0 ≤ m (29 * s + (17 + i)) ∧ m (29 * s + (17 + i)) ≤ 99) ∧ (∀ s t, 0 ≤ s → s < m 580 → 0 ≤ t → t < m 580 → m (29 * s + 3) = m (29 * t) → m (29 * t + 1) ≤ m (29 * s + 1))
section SPWT
variable {m : Int → Int}
theorem sp_wt.c (h : sp_wt m) : 0 ≤ m 580 ∧ m 580 ≤ 20 := h.1
theorem sp_wt.cm (h : sp_wt m) : 0 ≤ m 581 ∧ m 581 ≤ 99 := h.2.1
theorem sp_wt.num (h : sp_wt m) {s : Int} (h0 : 0 ≤ s) (h1 : s < m 580) : 0 ≤ m (29 * s) ∧ m (29 * s) < m 581 := ⟨(h.2.2.1 s h0 h1).1, (h.2.2.1 s h0 h1).2.1⟩
theorem sp_wt.frm (h : sp_wt m) {s : Int} (h0 : 0 ≤ s) (h1 : s < m 580) : 1 ≤ m (29 * s + 1) ∧ m (29 * s + 1) ≤ 3 := ⟨(h.2.2.1 s h0 h1).2.2.1, (h.2.2.1 s h0 h1).2.2.2.1⟩
theorem sp_wt.bas (h : sp_wt m) {s : Int} (h0 : 0 ≤ s) (h1 : s < m 580) : m (29 * s + 3) = -1 ∨ (0 ≤ m (29 * s + 3) ∧ m (29 * s + 3) < m (29 * s)) := (h.2.2.1 s h0 h1).2.2.2.2
theorem sp_wt.asc (h : sp_wt m) {s t : Int} (h0 : 0 ≤ s) (h1 : s < t) (h2 : t < m 580) : m (29 * s) < m (29 * t) := h.2.2.2.1 s t h0 h1 h2
theorem sp_wt.whole (h : sp_wt m) {s : Int} (h0 : 0 ≤ s) (h1 : s < m 580) (hb : m (29 * s + 3) = -1) : m (29 * s + 4) = 6 + 2 * m (29 * s + 1) ∧ ∀ i, 0 ≤ i → i < m (29 * s + 4) → m (29 * s + (5 + i)) = i := h.2.2.2.2.1 s h0 h1 hb
theorem sp_wt.many (h : sp_wt m) {s : Int} (h0 : 0 ≤ s) (h1 : s < m 580) : 0 ≤ m (29 * s + 4) ∧ m (29 * s + 4) ≤ 12 := ⟨(h.2.2.2.2.2.1 s h0 h1).1, (h.2.2.2.2.2.1 s h0 h1).2.1⟩
theorem sp_wt.ent (h : sp_wt m) {s i : Int} (h0 : 0 ≤ s) (h1 : s < m 580) (h2 : 0 ≤ i) (h3 : i < m (29 * s + 4)) : 0 ≤ m (29 * s + (5 + i)) ∧ m (29 * s + (5 + i)) < 6 + 2 * m (29 * s + 1) ∧ 0 ≤ m (29 * s + (17 + i)) ∧ m (29 * s + (17 + i)) ≤ 99 := (h.2.2.2.2.2.1 s h0 h1).2.2 i h2 h3
theorem sp_wt.fms (h : sp_wt m) {s t : Int} (h0 : 0 ≤ s) (h1 : s < m 580) (h2 : 0 ≤ t) (h3 : t < m 580) (he : m (29 * s + 3) = m (29 * t)) : m (29 * t + 1) ≤ m (29 * s + 1) := h.2.2.2.2.2.2 s t h0 h1 h2 h3 he
theorem sp_slot_in {n : Int} (h : sp_slot m n ≠ -1) : 0 ≤ sp_slot m n ∧ sp_slot m n < m 580 ∧ m (29 * sp_slot m n) = n := by
  rcases sp_slot_spec m n with ⟨h1, -⟩ | ⟨h1, h2, h3, -⟩
  · exact absurd h1 h
  · exact ⟨h1, h2, h3⟩
theorem sp_wt.slot (h : sp_wt m) {s : Int} (h0 : 0 ≤ s) (h1 : s < m 580) : sp_slot m (m (29 * s)) = s := sp_slot_eq h0 h1 rfl fun j a b => by
  have := h.asc a b h1
  omega
theorem sp_wt.neg (h : sp_wt m) {n : Int} (hn : n < 0) : sp_slot m n = -1 := sp_slot_none fun j a b => by
  have := (h.num a b).1
  omega
/-- a base lies at a lesser place -/
theorem sp_wt.down (h : sp_wt m) {n : Int} (h1 : sp_slot m n ≠ -1) (h2 : sp_slot m (sp_bs m n) ≠ -1) : sp_slot m (sp_bs m n) < sp_slot m n := by
  obtain ⟨a0, a1, a2⟩ := sp_slot_in h1
  obtain ⟨b0, b1, b2⟩ := sp_slot_in h2
  have e : sp_bs m n = m (29 * sp_slot m n + 3) := by unfold sp_bs; rw [if_neg h1]
  have hb := h.bas a0 a1
  have hn := (h.num b0 b1).1
  by_cases hlt : sp_slot m (sp_bs m n) < sp_slot m n
  · exact hlt
  · exfalso
    by_cases heq : sp_slot m (sp_bs m n) = sp_slot m n
    · have hq : n = sp_bs m n := a2.symm.trans ((congrArg (fun z => m (29 * z)) heq).symm.trans b2)
      rw [← e, ← hq, a2] at hb
      have := (h.num a0 a1).1
      omega
    · have := h.asc a0 (by omega : sp_slot m n < sp_slot m (sp_bs m n)) b1
      omega
theorem sp_wt.bs_lt (h : sp_wt m) {n : Int} (h1 : sp_slot m n ≠ -1) : sp_bs m n = -1 ∨ (0 ≤ sp_bs m n ∧ sp_bs m n < n) := by
  obtain ⟨a0, a1, a2⟩ := sp_slot_in h1
  have hb := h.bas a0 a1
  rw [a2] at hb
  unfold sp_bs
  rw [if_neg h1]
  exact hb
end SPWT
/-- the pl and va of a place -/
def sp_body (m : Int → Int) (rd : Int → Int × (Int → Int)) (n : Int) : Int × (Int → Int) :=
  if sp_slot m n = -1 then (0, fun _ => 0)
  else if m (29 * sp_slot m n + 3) = -1 then
    (if sp_sm (sp_en (fun _ => 0) (fun i => m (29 * sp_slot m n + (5 + i))) (fun i => m (29 * sp_slot m n + (17 + i))) (m (29 * sp_slot m n + 4)).toNat) (6 + 2 * m (29 * sp_slot m n + 1)).toNat = m (29 * sp_slot m n + 2) then -1 else 1, sp_en (fun _ => 0) (fun i => m (29 * sp_slot m n + (5 + i))) (fun i => m (29 * sp_slot m n + (17 + i))) (m (29 * sp_slot m n + 4)).toNat)
  else if (rd (m (29 * sp_slot m n + 3))).1 ≠ -1 then (2, fun _ => 0)
  else
    (if sp_sm (sp_en (sp_rz (rd (m (29 * sp_slot m n + 3))).2 (m (29 * sp_slot m (m (29 * sp_slot m n + 3)) + 1)) (m (29 * sp_slot m n + 1))) (fun i => m (29 * sp_slot m n + (5 + i))) (fun i => m (29 * sp_slot m n + (17 + i))) (m (29 * sp_slot m n + 4)).toNat) (6 + 2 * m (29 * sp_slot m n + 1)).toNat = m (29 * sp_slot m n + 2) then -1 else 1, sp_en (sp_rz (rd (m (29 * sp_slot m n + 3))).2 (m (29 * sp_slot m (m (29 * sp_slot m n + 3)) + 1)) (m (29 * sp_slot m n + 1))) (fun i => m (29 * sp_slot m n + (5 + i))) (fun i => m (29 * sp_slot m n + (17 + i))) (m (29 * sp_slot m n + 4)).toNat)
def sp_rd (m : Int → Int) : Nat → Int → Int × (Int → Int)
  | 0 => fun _ => (0, fun _ => 0)
  | k + 1 => sp_body m (sp_rd m k)
/-- why a number can't be read: -1 it can, 0 lost, 1 its sum, 2 its base; and as what it is read -/
def sp_R (m : Int → Int) (n : Int) : Int := (sp_rd m 100 n).1
def sp_V (m : Int → Int) (n : Int) : Int → Int := (sp_rd m 100 n).2
theorem sp_body_congr {m : Int → Int} {rd rd' : Int → Int × (Int → Int)} {n : Int} (h : sp_slot m n ≠ -1 → m (29 * sp_slot m n + 3) ≠ -1 → rd (m (29 * sp_slot m n + 3)) = rd' (m (29 * sp_slot m n + 3))) : sp_body m rd n = sp_body m rd' n := by
  unfold sp_body
  by_cases h1 : sp_slot m n = -1
  · rw [if_pos h1, if_pos h1]
  · rw [if_neg h1, if_neg h1]
    by_cases h2 : m (29 * sp_slot m n + 3) = -1
    · rw [if_pos h2, if_pos h2]
    · rw [if_neg h2, if_neg h2, h h1 h2]
theorem sp_rd_fuel {m : Int → Int} (hw : sp_wt m) : ∀ (k k' : Nat) (n : Int), n < k → n < k' → 0 ≤ n → sp_rd m k n = sp_rd m k' n := by
  intro k
  induction k with
  | zero => intro k' n h1 h2 h3; omega
  | succ k ih =>
    intro k' n h1 h2 h3
    cases k' with
    | zero => omega
    | succ k' =>
      refine sp_body_congr fun a b => ?_
      have hb := hw.bs_lt a
      unfold sp_bs at hb
      rw [if_neg a] at hb
      exact ih k' _ (by omega) (by omega) (by omega)
theorem sp_rd_eq {m : Int → Int} (hw : sp_wt m) (n : Int) : sp_rd m 100 n = sp_body m (sp_rd m 100) n := by
  refine sp_body_congr fun a b => ?_
  obtain ⟨a0, a1, a2⟩ := sp_slot_in a
  have hb := hw.bs_lt a
  have hn := hw.num a0 a1
  have hc := hw.cm
  unfold sp_bs at hb
  rw [if_neg a] at hb
  exact sp_rd_fuel hw 99 100 _ (by omega) (by omega) (by omega)
section SPR
variable {m : Int → Int} {n : Int}
theorem sp_R_lost (hw : sp_wt m) (h : sp_slot m n = -1) : sp_R m n = 0 := by
  unfold sp_R
  rw [sp_rd_eq hw]
  unfold sp_body
  rw [if_pos h]
theorem sp_V_whole (hw : sp_wt m) (h : sp_slot m n ≠ -1) (hb : sp_bs m n = -1) : sp_V m n = sp_en (fun _ => 0) (fun i => m (29 * sp_slot m n + (5 + i))) (fun i => m (29 * sp_slot m n + (17 + i))) (m (29 * sp_slot m n + 4)).toNat ∧ sp_R m n = if sp_sm (sp_V m n) (6 + 2 * m (29 * sp_slot m n + 1)).toNat = m (29 * sp_slot m n + 2) then -1 else 1 := by
  unfold sp_bs at hb
  rw [if_neg h] at hb
  unfold sp_V sp_R
  rw [sp_rd_eq hw]
  unfold sp_body
  rw [if_neg h, if_pos hb]
  exact ⟨rfl, rfl⟩
theorem sp_R_bad (hw : sp_wt m) (h : sp_slot m n ≠ -1) (hb : sp_bs m n ≠ -1) (hr : sp_R m (sp_bs m n) ≠ -1) : sp_R m n = 2 := by
  unfold sp_bs at hb hr
  rw [if_neg h] at hb hr
  unfold sp_R at hr ⊢
  rw [sp_rd_eq hw]
  unfold sp_body
  rw [if_neg h, if_neg hb, if_pos hr]
theorem sp_V_diff (hw : sp_wt m) (h : sp_slot m n ≠ -1) (hb : sp_bs m n ≠ -1) (hr : sp_R m (sp_bs m n) = -1) : sp_V m n = sp_en (sp_rz (sp_V m (sp_bs m n)) (m (29 * sp_slot m (sp_bs m n) + 1)) (m (29 * sp_slot m n + 1))) (fun i => m (29 * sp_slot m n + (5 + i))) (fun i => m (29 * sp_slot m n + (17 + i))) (m (29 * sp_slot m n + 4)).toNat ∧ sp_R m n = if sp_sm (sp_V m n) (6 + 2 * m (29 * sp_slot m n + 1)).toNat = m (29 * sp_slot m n + 2) then -1 else 1 := by
  have e : sp_bs m n = m (29 * sp_slot m n + 3) := by unfold sp_bs; rw [if_neg h]
  rw [e] at hb hr ⊢
  unfold sp_V sp_R at *
  rw [sp_rd_eq hw (n := n)]
  unfold sp_body
  rw [if_neg h, if_neg hb, if_neg (by omega)]
  exact ⟨rfl, rfl⟩
theorem sp_R_slot (hw : sp_wt m) (h : sp_R m n ≠ 0) : sp_slot m n ≠ -1 := fun q => h (sp_R_lost hw q)
end SPR
theorem sp_V_ok {m : Int → Int} (hw : sp_wt m) : ∀ (k : Nat) (n : Int), n < k → sp_slot m n ≠ -1 → (sp_bs m n ≠ -1 → sp_R m (sp_bs m n) = -1) → sp_ok (sp_V m n) (6 + 2 * m (29 * sp_slot m n + 1)) := by
  intro k
  induction k with
  | zero =>
    intro n hn h
    exact absurd (hw.neg (by omega)) h
  | succ k ih =>
    intro n hn h hr
    obtain ⟨a0, a1, a2⟩ := sp_slot_in h
    have hm := hw.many a0 a1
    by_cases hb : sp_bs m n = -1
    · rw [(sp_V_whole hw h hb).1]
      have hb' : m (29 * sp_slot m n + 3) = -1 := by
        unfold sp_bs at hb
        rw [if_neg h] at hb
        exact hb
      obtain ⟨w1, w2⟩ := hw.whole a0 a1 hb'
      intro j h0 h1
      rw [sp_en_all _ (fun i a b => w2 i a (by omega)) j h0 (by omega)]
      have := hw.ent a0 a1 h0 (i := j) (by omega)
      exact ⟨this.2.2.1, this.2.2.2⟩
    · have hr' := hr hb
      rw [(sp_V_diff hw h hb hr').1]
      have hs := sp_R_slot hw (by omega : sp_R m (sp_bs m n) ≠ 0)
      obtain ⟨b0, b1, b2⟩ := sp_slot_in hs
      have hlt := hw.bs_lt h
      have e : sp_bs m n = m (29 * sp_slot m n + 3) := by unfold sp_bs; rw [if_neg h]
      have hf := hw.fms a0 a1 b0 b1 (by rw [b2, e])
      have f1 := hw.frm a0 a1
      have f2 := hw.frm b0 b1
      refine sp_en_ok (sp_rz_ok f2.1 hf f1.2 (ih _ (by omega) hs fun hb2 => ?_)) _ (fun i a b => ?_)
      · by_cases hq : sp_R m (sp_bs m (sp_bs m n)) = -1
        · exact hq
        · have := sp_R_bad hw hs hb2 hq
          omega
      · have := hw.ent a0 a1 a (i := i) (by omega)
        exact ⟨this.2.2.1, this.2.2.2⟩
theorem sp_V_ok' {m : Int → Int} (hw : sp_wt m) {n : Int} (h : sp_R m n = -1) : sp_ok (sp_V m n) (6 + 2 * m (29 * sp_slot m n + 1)) := by
  have hs := sp_R_slot hw (by omega : sp_R m n ≠ 0)
  refine sp_V_ok hw (n + 1).toNat n ?_ hs fun hb => ?_
  · obtain ⟨a0, a1, a2⟩ := sp_slot_in hs
    have := (hw.num a0 a1).1
    omega
  · by_cases hq : sp_R m (sp_bs m n) = -1
    · exact hq
    · have := sp_R_bad hw hs hb hq
      omega
