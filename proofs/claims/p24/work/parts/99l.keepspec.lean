/-! a kept state written by the law -/
section LWKEEP
/-- the mask of the first n places; how many they are -/
def lw_mk (e : Int → Int) : Nat → Int
  | 0 => 0
  | i + 1 => lw_mk e i + (if e i = 1 then lw_2 i else 0)
theorem lw_mk_s {e : Int → Int} {i : Int} (h : 0 ≤ i) : lw_mk e (i + 1).toNat = lw_mk e i.toNat + (if e i = 1 then lw_2 i else 0) := by
  rw [show (i + 1).toNat = i.toNat + 1 by omega]
  show lw_mk e i.toNat + (if e ((i.toNat : Nat) : Int) = 1 then lw_2 ((i.toNat : Nat) : Int) else 0) = _
  rw [show ((i.toNat : Nat) : Int) = i by omega]
theorem lw_mk_bd (e : Int → Int) : ∀ n : Nat, 0 ≤ lw_mk e n ∧ lw_mk e n < lw_2 n := by
  intro n
  induction n with
  | zero => exact ⟨Int.le_refl _, (by decide : (0 : Int) < 1)⟩
  | succ n ih =>
    have h2 := lw_2_s (p := (n : Int)) (by omega)
    have hp := lw_2_pos (n : Int)
    have e1 : lw_mk e (n + 1) = lw_mk e n + (if e n = 1 then lw_2 n else 0) := rfl
    rw [e1, show ((n + 1 : Nat) : Int) = (n : Int) + 1 by omega, h2]
    split <;> omega
theorem lw_mk_b {e : Int → Int} (he : ∀ j, e j = 0 ∨ e j = 1) : ∀ (n : Nat) (j : Int), 0 ≤ j → j < n → lw_b (lw_mk e n) j = e j := by
  intro n
  induction n with
  | zero => intro j h0 h1; omega
  | succ n ih =>
    intro j h0 h1
    have hb := lw_mk_bd e n
    have e1 : lw_mk e (n + 1) = lw_mk e n + (if e n = 1 then lw_2 n else 0) := rfl
    rw [e1]
    by_cases hj : j = n
    · subst hj
      rcases he (n : Int) with h | h
      · rw [if_neg (by omega), Int.add_zero, h]; exact lw_b_hi hb.1 hb.2
      · rw [if_pos h, h]; exact lw_b_new hb.1 hb.2 (by omega)
    · split
      · rw [lw_b_add hb.1 hb.2 (by omega) h0 (by omega)]; exact ih j h0 (by omega)
      · rw [Int.add_zero]; exact ih j h0 (by omega)
theorem lw_mk_b0 {e : Int → Int} {n : Nat} {j : Int} (h : (n : Int) ≤ j) : lw_b (lw_mk e n) j = 0 := lw_b_hi' (lw_mk_bd e n).1 (lw_mk_bd e n).2 (by omega) h
theorem lw_mk_c {e : Int → Int} (he : ∀ j, e j = 0 ∨ e j = 1) (n : Nat) : ∀ k : Nat, lw_c (lw_mk e n) k = sp_cnt e (min k n) := by
  intro k
  induction k with
  | zero => rw [Nat.zero_min]; rfl
  | succ k ih =>
    have e1 : lw_c (lw_mk e n) (k + 1) = lw_c (lw_mk e n) k + lw_b (lw_mk e n) (k : Int) := rfl
    rw [e1, ih]
    by_cases h : k < n
    · rw [lw_mk_b he n k (by omega) (by omega), show min k n = k by omega, show min (k + 1) n = k + 1 by omega]; rfl
    · rw [lw_mk_b0 (by omega), show min k n = n by omega, show min (k + 1) n = n by omega]; omega
/-- the packed values so far: c of them -/
def lw_wi (q : Int → Int) (s c : Int) (val : Int → Int) : Prop := (∀ u, 0 ≤ u → u < 3 → 0 ≤ q (8 * s + 5 + u) ∧ q (8 * s + 5 + u) < 268435456 ∧ (c / 4 < u → q (8 * s + 5 + u) = 0) ∧ (u = c / 4 → q (8 * s + 5 + u) < lw_p (c % 4))) ∧ ∀ t, 0 ≤ t → t < c → lw_k q s t = val t
theorem lw_wi_0 {q val : Int → Int} {s : Int} (h : ∀ t, 5 ≤ t → t < 8 → q (8 * s + t) = 0) : lw_wi q s 0 val := by
  refine ⟨fun u u0 u1 => ?_, fun t t0 t1 => by omega⟩
  rw [show 8 * s + 5 + u = 8 * s + (5 + u) by omega, h (5 + u) (by omega) (by omega)]
  exact ⟨by decide, by decide, fun _ => rfl, fun _ => by decide⟩
theorem lw_wi_cg {q q' val : Int → Int} {s c : Int} (hc : c ≤ 12) (h : lw_wi q s c val) (he : ∀ t, 5 ≤ t → t < 8 → q' (8 * s + t) = q (8 * s + t)) : lw_wi q' s c val := by
  have e5 : ∀ u, 0 ≤ u → u < 3 → q' (8 * s + 5 + u) = q (8 * s + 5 + u) := fun u a b => by rw [show 8 * s + 5 + u = 8 * s + (5 + u) by omega]; exact he _ (by omega) (by omega)
  refine ⟨fun u u0 u1 => by rw [e5 u u0 u1]; exact h.1 u u0 u1, fun t t0 t1 => ?_⟩
  unfold lw_k
  rw [e5 _ (by omega) (by omega)]
  exact h.2 t t0 t1
theorem lw_wi_1 {q val : Int → Int} {s c : Int} (h : lw_wi q s c val) (h0 : 0 ≤ c) (h1 : c < 12) (hv : 0 ≤ val c ∧ val c ≤ 127) : lw_wi (sp_up q (8 * s + 5 + c / 4) (q (8 * s + 5 + c / 4) + val c * lw_p (c % 4))) s (c + 1) val := by
  obtain ⟨w1, w2⟩ := h
  have ha := w1 (c / 4) (by omega) (by omega)
  have hW := ha.2.2.2 rfl
  generalize hWd : q (8 * s + 5 + c / 4) = W at *
  have hp4 : ∀ a : Int, 0 ≤ a → a < 4 → a = 0 ∧ lw_p a = 1 ∨ a = 1 ∧ lw_p a = 128 ∨ a = 2 ∧ lw_p a = 16384 ∨ a = 3 ∧ lw_p a = 2097152 := by
    intro a a0 a1
    rcases lw_t4 ⟨a0, a1⟩ with rfl | rfl | rfl | rfl <;> simp [lw_p]
  generalize hvd : val c = v at *
  constructor
  · intro u u0 u1
    have hu := w1 u u0 u1
    unfold sp_up
    by_cases e : u = c / 4
    · subst e
      rw [if_pos rfl]
      rcases hp4 (c % 4) (by omega) (by omega) with ⟨e1, e2⟩ | ⟨e1, e2⟩ | ⟨e1, e2⟩ | ⟨e1, e2⟩
      · rw [e2] at hW ⊢
        refine ⟨by omega, by omega, fun _ => by omega, fun _ => ?_⟩
        rw [show (c + 1) % 4 = 1 by omega]; show _ < (128 : Int); omega
      · rw [e2] at hW ⊢
        refine ⟨by omega, by omega, fun _ => by omega, fun _ => ?_⟩
        rw [show (c + 1) % 4 = 2 by omega]; show _ < (16384 : Int); omega
      · rw [e2] at hW ⊢
        refine ⟨by omega, by omega, fun _ => by omega, fun _ => ?_⟩
        rw [show (c + 1) % 4 = 3 by omega]; show _ < (2097152 : Int); omega
      · rw [e2] at hW ⊢
        exact ⟨by omega, by omega, fun _ => by omega, fun _ => by omega⟩
    · rw [if_neg (by omega)]
      refine ⟨hu.1, hu.2.1, fun z => hu.2.2.1 (by omega), fun z => ?_⟩
      have e0 := hu.2.2.1 (by omega)
      rw [e0, show (c + 1) % 4 = 0 by omega]
      show (0 : Int) < 1
      omega
  · intro t t0 t1
    unfold lw_k sp_up
    by_cases e : t = c
    · subst e
      rw [if_pos rfl]
      rcases hp4 (t % 4) (by omega) (by omega) with ⟨e1, e2⟩ | ⟨e1, e2⟩ | ⟨e1, e2⟩ | ⟨e1, e2⟩ <;> (rw [e2] at hW ⊢; omega)
    · by_cases e4 : t / 4 = c / 4
      · have hk := w2 t t0 (by omega)
        unfold lw_k at hk
        rw [e4, hWd] at hk
        rw [if_pos (by omega), ← hk]
        rcases hp4 (c % 4) (by omega) (by omega) with ⟨e1, e2⟩ | ⟨e1, e2⟩ | ⟨e1, e2⟩ | ⟨e1, e2⟩ <;> rcases hp4 (t % 4) (by omega) (by omega) with ⟨f1, f2⟩ | ⟨f1, f2⟩ | ⟨f1, f2⟩ | ⟨f1, f2⟩ <;> first | (exfalso; omega) | (rw [e2, f2]; omega)
      · rw [if_neg (by omega)]
        have hk := w2 t t0 (by omega)
        unfold lw_k at hk
        exact hk
variable {m m' : Int → Int}
theorem lw_keep_ex (hc : 0 ≤ m 580 ∧ m 580 < 20) (hg : 1 ≤ m 582 ∧ m 582 ≤ 3) : ∃ m', sp_keep m m' := by
  have hm4 : ∀ j, j ≠ 29 * m 580 → j ≠ 29 * m 580 + 1 → j ≠ 29 * m 580 + 2 → sp_up (sp_up (sp_up m (29 * m 580) (m 581)) (29 * m 580 + 1) (m 582)) (29 * m 580 + 2) (sp_sm (sp_gv m) (6 + 2 * m 582).toNat) j = m j := fun j a b c => by
    unfold sp_up; rw [if_neg c, if_neg b, if_neg a]
  have h0 : sp_up (sp_up (sp_up m (29 * m 580) (m 581)) (29 * m 580 + 1) (m 582)) (29 * m 580 + 2) (sp_sm (sp_gv m) (6 + 2 * m 582).toNat) (29 * m 580) = m 581 := by
    unfold sp_up; rw [if_neg (by omega), if_neg (by omega), if_pos rfl]
  have h1 : sp_up (sp_up (sp_up m (29 * m 580) (m 581)) (29 * m 580 + 1) (m 582)) (29 * m 580 + 2) (sp_sm (sp_gv m) (6 + 2 * m 582).toNat) (29 * m 580 + 1) = m 582 := by
    unfold sp_up; rw [if_neg (by omega), if_pos rfl]
  have h2 : sp_up (sp_up (sp_up m (29 * m 580) (m 581)) (29 * m 580 + 1) (m 582)) (29 * m 580 + 2) (sp_sm (sp_gv m) (6 + 2 * m 582).toNat) (29 * m 580 + 2) = sp_sm (sp_gv m) (6 + 2 * m 582).toNat := by
    unfold sp_up; rw [if_pos rfl]
  generalize sp_up (sp_up (sp_up m (29 * m 580) (m 581)) (29 * m 580 + 1) (m 582)) (29 * m 580 + 2) (sp_sm (sp_gv m) (6 + 2 * m 582).toNat) = m4 at hm4 h0 h1 h2
  by_cases hn : sp_near m
  · refine ⟨_, sp_keep_of (m5 := sp_up (sp_up (sp_wd m4 (m 580) (sp_rz (sp_V m (m 595)) (m (29 * sp_slot m (m 595) + 1)) (m 582)) (sp_gv m) (6 + 2 * m 582).toNat) (29 * m 580 + 3) (m 595)) (29 * m 580 + 4) (sp_dn (sp_rz (sp_V m (m 595)) (m (29 * sp_slot m (m 595) + 1)) (m 582)) (sp_gv m) (6 + 2 * m 582).toNat)) hc hg (fun j hj => ?_) ?_ ?_ ?_ (fun _ => sp_rowD_of (by omega) (by omega) (fun _ _ _ => rfl) (fun _ _ _ => rfl)) (fun h => absurd hn h)⟩
    · rw [sp_rowD_out (by omega) (by omega)]; exact hm4 j (by omega) (by omega) (by omega)
    · rw [sp_rowD_out (by omega) (by omega)]; exact h0
    · rw [sp_rowD_out (by omega) (by omega)]; exact h1
    · rw [sp_rowD_out (by omega) (by omega)]; exact h2
  · refine ⟨_, sp_keep_of (m5 := sp_ww m4 (m 580) (6 + 2 * m 582) 12 (sp_gv m)) hc hg (fun j hj => ?_) ?_ ?_ ?_ (fun h => absurd h hn) (fun _ => sp_ww_row (by omega))⟩
    · rw [sp_ww_out (by omega)]; exact hm4 j (by omega) (by omega) (by omega)
    · rw [sp_ww_out (by omega)]; exact h0
    · rw [sp_ww_out (by omega)]; exact h1
    · rw [sp_ww_out (by omega)]; exact h2
theorem sp_dn_cnt {v w e : Int → Int} (h : ∀ j, e j = if v j = w j then 0 else 1) : ∀ k : Nat, sp_dn v w k = sp_cnt e k := by
  intro k
  induction k with
  | zero => rfl
  | succ k ih =>
    show sp_dn v w k + (if v k = w k then 0 else 1) = sp_cnt e k + e k
    rw [ih, h]
theorem sp_cnt_1 {e : Int → Int} (h : ∀ j, e j = 1) : ∀ k : Nat, sp_cnt e k = k := by
  intro k
  induction k with
  | zero => rfl
  | succ k ih =>
    show sp_cnt e k + e k = ((k + 1 : Nat) : Int)
    rw [ih, h]; omega
/-- which values are written -/
theorem lw_keep_e (hk : sp_keep m m') (hF : 1 ≤ m 582 ∧ m 582 ≤ 3) : ∃ e : Int → Int, (∀ j, e j = 0 ∨ e j = 1) ∧ m' (29 * m 580 + 4) = sp_cnt e (6 + 2 * m 582).toNat ∧ (∀ j, 0 ≤ j → j < 6 + 2 * m 582 → e j = 1 → m' (29 * m 580 + (5 + sp_cnt e j.toNat)) = j ∧ m' (29 * m 580 + (17 + sp_cnt e j.toNat)) = sp_gv m j) ∧ (sp_near m → m' (29 * m 580 + 3) = m 595 ∧ ∀ j, e j = if sp_rz (sp_V m (m 595)) (m (29 * sp_slot m (m 595) + 1)) (m 582) j = sp_gv m j then 0 else 1) ∧ (¬ sp_near m → m' (29 * m 580 + 3) = -1 ∧ ∀ j, e j = 1) := by
  obtain ⟨-, -, -, -, -, -, -, -, -, -, hD, hW⟩ := hk
  by_cases hn : sp_near m
  · obtain ⟨d1, d2, d3⟩ := hD hn
    have hc := sp_dn_cnt (e := fun j => if sp_rz (sp_V m (m 595)) (m (29 * sp_slot m (m 595) + 1)) (m 582) j = sp_gv m j then 0 else 1) (fun _ => rfl)
    refine ⟨_, fun j => ?_, by rw [d2]; exact hc _, fun j j0 j1 hj => ?_, fun _ => ⟨d1, fun _ => rfl⟩, fun h => absurd hn h⟩
    · (try dsimp only)
      split <;> simp
    · rw [← hc]
      exact d3 j j0 j1 (fun z => by (try dsimp only at hj); rw [if_pos z] at hj; omega)
  · obtain ⟨d1, d2, d3⟩ := hW hn
    have hc := sp_cnt_1 (e := fun _ => 1) (fun _ => rfl)
    refine ⟨_, fun j => Or.inr rfl, by rw [d2, hc]; omega, fun j j0 j1 _ => ?_, fun h => absurd h hn, fun _ => ⟨d1, fun _ => rfl⟩⟩
    rw [hc, show ((j.toNat : Nat) : Int) = j by omega]
    exact d3 j j0 j1
/-- the law's table while the row k is written -/
def lw_kq (q0 q m m' e : Int → Int) (k i : Int) : Prop := (∀ j, ¬ (8 * k ≤ j ∧ j < 8 * k + 8) → q j = q0 j) ∧ (q (8 * k) = m 582 ∧ q (8 * k + 1) = sp_sm (sp_gv m) (6 + 2 * m 582).toNat ∧ q (8 * k + 2) = m' (29 * k + 3) ∧ q (8 * k + 3) = lw_mk e i.toNat ∧ q (8 * k + 4) = sp_cnt e i.toNat) ∧ lw_wi q k (sp_cnt e i.toNat) (fun t => m' (29 * k + (17 + t)))
variable {q0 q e : Int → Int} {k i : Int}
theorem sp_cnt_01 (he : ∀ j, e j = 0 ∨ e j = 1) (n : Nat) : 0 ≤ sp_cnt e n ∧ sp_cnt e n ≤ n := by
  have := sp_cnt_in (q := e) (b := 1) n (fun i _ _ => by rcases he i with h | h <;> rw [h] <;> omega)
  omega
theorem lw_kq_0 (h : lw_kq q0 q m m' e k i) (h0 : 0 ≤ i) (hi : e i = 0) : lw_kq q0 q m m' e k (i + 1) := by
  unfold lw_kq
  rw [lw_mk_s h0, sp_cnt_s h0, hi, if_neg (by decide), Int.add_zero, Int.add_zero]
  exact h
theorem lw_kq_1 (h : lw_kq q0 q m m' e k i) (he : ∀ j, e j = 0 ∨ e j = 1) (h0 : 0 ≤ i) (h1 : i < 12) (hi : e i = 1) {v : Int} (hv : m' (29 * k + (17 + sp_cnt e i.toNat)) = v) (hv9 : 0 ≤ v ∧ v ≤ 99) : lw_kq q0 (sp_up (sp_up (sp_up q (8 * k + 5 + sp_cnt e i.toNat / 4) (q (8 * k + 5 + sp_cnt e i.toNat / 4) + v * lw_p (sp_cnt e i.toNat % 4))) (8 * k + 3) (lw_mk e i.toNat + lw_2 i)) (8 * k + 4) (sp_cnt e i.toNat + 1)) m m' e k (i + 1) := by
  obtain ⟨a1, ⟨b0, b1, b2, b3, b4⟩, c1⟩ := h
  have hc := sp_cnt_01 he i.toNat
  have c2 := lw_wi_1 c1 hc.1 (by omega) (by rw [hv]; omega)
  try dsimp only at c2
  rw [hv] at c2
  unfold lw_kq
  rw [lw_mk_s h0, sp_cnt_s h0, hi, if_pos rfl]
  refine ⟨fun j hj => ?_, ⟨?_, ?_, ?_, ?_, ?_⟩, lw_wi_cg (by omega) c2 fun t t0 t1 => ?_⟩
  · unfold sp_up; rw [if_neg (by omega), if_neg (by omega), if_neg (by omega)]; exact a1 j hj
  · unfold sp_up; rw [if_neg (by omega), if_neg (by omega), if_neg (by omega)]; exact b0
  · unfold sp_up; rw [if_neg (by omega), if_neg (by omega), if_neg (by omega)]; exact b1
  · unfold sp_up; rw [if_neg (by omega), if_neg (by omega), if_neg (by omega)]; exact b2
  · unfold sp_up; rw [if_neg (by omega), if_pos rfl]
  · unfold sp_up; rw [if_pos rfl]
  · unfold sp_up; rw [if_neg (c := 8 * k + t = 8 * k + 4) (by omega), if_neg (c := 8 * k + t = 8 * k + 3) (by omega)]
theorem lw_kq_start (hz : ∀ t, 5 ≤ t → t < 8 → q0 (8 * k + t) = 0) {a b c : Int} (ha : a = m 582) (hb : b = sp_sm (sp_gv m) (6 + 2 * m 582).toNat) (hc : c = m' (29 * k + 3)) : lw_kq q0 (sp_up (sp_up (sp_up (sp_up (sp_up q0 (8 * k) a) (8 * k + 1) b) (8 * k + 2) c) (8 * k + 3) 0) (8 * k + 4) 0) m m' e k 0 := by
  refine ⟨fun j hj => ?_, ⟨?_, ?_, ?_, ?_, ?_⟩, lw_wi_0 fun t t0 t1 => ?_⟩
  · unfold sp_up; rw [if_neg (by omega), if_neg (by omega), if_neg (by omega), if_neg (by omega), if_neg (by omega)]
  · unfold sp_up; rw [if_neg (by omega), if_neg (by omega), if_neg (by omega), if_neg (by omega), if_pos rfl]; exact ha
  · unfold sp_up; rw [if_neg (by omega), if_neg (by omega), if_neg (by omega), if_pos rfl]; exact hb
  · unfold sp_up; rw [if_neg (by omega), if_neg (by omega), if_pos rfl]; exact hc
  · unfold sp_up; rw [if_neg (by omega), if_pos rfl]; rfl
  · unfold sp_up; rw [if_pos rfl]; rfl
  · unfold sp_up; rw [if_neg (by omega), if_neg (by omega), if_neg (by omega), if_neg (by omega), if_neg (by omega)]; exact hz t t0 t1
theorem lw_row.cg {q' : Int → Int} {s : Int} (h : lw_row q m s) (hs : 0 ≤ s) (hq : ∀ t, 0 ≤ t → t < 8 → q' (8 * s + t) = q (8 * s + t)) (hm : ∀ j, 29 * s ≤ j → j < 29 * s + 29 → m' j = m j) : lw_row q' m' s := by
  obtain ⟨⟨b1, b2, b3, b4⟩, c, d, e, g⟩ := h
  have hq0 := hq 0 (by decide) (by decide)
  rw [Int.add_zero] at hq0
  have hc := lw_c_in (q (8 * s + 3)) 12
  have hk : ∀ i, 0 ≤ i → i < 12 → lw_k q' s i = lw_k q s i := fun i i0 i1 => by
    unfold lw_k
    rw [show 8 * s + 5 + i / 4 = 8 * s + (5 + i / 4) by omega, hq _ (by omega) (by omega)]
  unfold lw_row
  rw [hq0, hq 1 (by decide) (by decide), hq 2 (by decide) (by decide), hq 3 (by decide) (by decide), hq 4 (by decide) (by decide)]
  refine ⟨⟨by rw [hm _ (by omega) (by omega)]; exact b1, by rw [hm _ (by omega) (by omega)]; exact b2, by rw [hm _ (by omega) (by omega)]; exact b3, by rw [hm _ (by omega) (by omega)]; exact b4⟩, c, by rw [hm _ (by omega) (by omega)]; exact d, fun p p0 p1 hp => ?_, fun t t0 t1 => by rw [hq t (by omega) t1]; exact g t t0 t1⟩
  have hlt := lw_c_lt (n := 12) p0 (by omega) hp
  have hcp := lw_c_in (q (8 * s + 3)) p.toNat
  rw [hm _ (by omega) (by omega), hm _ (by omega) (by omega), hk _ hcp.1 (by omega)]
  exact e p p0 p1 hp
/-- the table when the row is written -/
theorem lw_kq_end (hq : lw_q q0 m) (hk : sp_keep m m') (hF : 1 ≤ m 582 ∧ m 582 ≤ 3) (h7 : m 580 ≤ 6) (h00 : 0 ≤ m 580) (he : ∀ j, e j = 0 ∨ e j = 1) (hc : m' (29 * m 580 + 4) = sp_cnt e (6 + 2 * m 582).toNat) (hent : ∀ j, 0 ≤ j → j < 6 + 2 * m 582 → e j = 1 → m' (29 * m 580 + (5 + sp_cnt e j.toNat)) = j ∧ m' (29 * m 580 + (17 + sp_cnt e j.toNat)) = sp_gv m j) (h : lw_kq q0 q m m' e (m 580) (6 + 2 * m 582)) : lw_q q m' := by
  obtain ⟨a1, ⟨b0, b1, b2, b3, b4⟩, c1, c2⟩ := h
  obtain ⟨k1, k2, k3, k4, k5, k6, k7, k8, k9, k10, -, -⟩ := hk
  obtain ⟨h1, h2, h3⟩ := hq
  refine ⟨by omega, fun s s0 s1 => ?_, fun s s0 s1 t t0 t1 => ?_⟩
  · by_cases es : s = m 580
    · subst es
      refine ⟨by rw [k8]; exact h1.1, ⟨by rw [b0, k9], by rw [b1, k10], b2, by rw [b4, hc]⟩, ?_, ?_, fun p p0 p1 hp => ?_, fun t t0 t1 => ?_⟩
      · rw [b3]
        have hb := lw_mk_bd e (6 + 2 * m 582).toNat
        have := lw_2_12 (p := (((6 + 2 * m 582).toNat : Nat) : Int)) (by omega) (by omega)
        omega
      · rw [b3, lw_mk_c he, show min 12 (6 + 2 * m 582).toNat = (6 + 2 * m 582).toNat by omega, hc]
      · rw [b3] at hp ⊢
        have hpn : p < 6 + 2 * m 582 := by
          by_cases z : p < 6 + 2 * m 582
          · exact z
          · rw [lw_mk_b0 (by omega)] at hp; omega
        rw [lw_mk_b he _ p p0 (by omega)] at hp
        rw [lw_mk_c he, show min p.toNat (6 + 2 * m 582).toNat = p.toNat by omega]
        have hlt : sp_cnt e p.toNat < sp_cnt e (6 + 2 * m 582).toNat := by
          have h5 := lw_mk_c he (6 + 2 * m 582).toNat p.toNat
          have h6 := lw_mk_c he (6 + 2 * m 582).toNat (6 + 2 * m 582).toNat
          rw [show min p.toNat (6 + 2 * m 582).toNat = p.toNat by omega] at h5
          rw [Nat.min_self] at h6
          rw [← h5, ← h6]
          exact lw_c_lt p0 (by omega) (by rw [lw_mk_b he _ p p0 (by omega)]; exact hp)
        exact ⟨(hent p p0 hpn hp).1, c2 _ (sp_cnt_01 he _).1 hlt⟩
      · have := c1 (t - 5) (by omega) (by omega)
        rw [show 8 * m 580 + 5 + (t - 5) = 8 * m 580 + t by omega] at this
        exact ⟨this.1, this.2.1⟩
    · have hs1 : s < m 580 := by omega
      obtain ⟨n1, n2⟩ := h2 s s0 hs1
      refine ⟨by rw [k1 _ (by omega) (by omega)]; exact n1, n2.cg s0 (fun t t0 t1 => a1 _ (by omega)) (fun j j0 j1 => k1 j (by omega) (by omega))⟩
  · rw [a1 _ (by omega)]
    exact h3 s (by omega) s1 t t0 t1
end LWKEEP
