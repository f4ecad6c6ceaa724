/-! texts that are typed, and how they are read -/
section TXSPEC
/-- the numbers l stand from p on -/
def tx_at (t : Int → Int) : Int → List Int → Prop
  | _, [] => True
  | p, x :: l => t p = x ∧ tx_at t (p + 1) l
theorem tx_app {t : Int → Int} : ∀ {a b : List Int} {p : Int}, tx_at t p (a ++ b) ↔ tx_at t p a ∧ tx_at t (p + (a.length : Int)) b := by
  intro a
  induction a with
  | nil => intro b p; simp [tx_at]
  | cons x l ih =>
    intro b p
    show (t p = x ∧ tx_at t (p + 1) (l ++ b)) ↔ (t p = x ∧ tx_at t (p + 1) l) ∧ _
    rw [ih, show p + 1 + (l.length : Int) = p + ((x :: l).length : Int) by simp only [List.length_cons]; omega]
    constructor
    · intro h; exact ⟨⟨h.1, h.2.1⟩, h.2.2⟩
    · intro h; exact ⟨h.1.1, h.1.2, h.2⟩
theorem tx_cg {t t' : Int → Int} : ∀ {l : List Int} {p : Int}, (∀ j, p ≤ j → j < p + (l.length : Int) → t' j = t j) → tx_at t p l → tx_at t' p l := by
  intro l
  induction l with
  | nil => intro p _ _; trivial
  | cons x l ih =>
    intro p h ha
    have hl : ((x :: l).length : Int) = (l.length : Int) + 1 := by simp only [List.length_cons]; omega
    exact ⟨by rw [h p (by omega) (by omega)]; exact ha.1, ih (fun j a b => h j (by omega) (by omega)) ha.2⟩
def tx_dg (v : Int) : List Int := if v < 10 then [48 + v] else [48 + v / 10, 48 + v % 10]
def tx_nm (v : Int) : List Int := if v < 0 then 45 :: tx_dg (-v) else tx_dg v
def tx_wd (w : Int) : List Int := if w = 0 then [115, 101, 116] else if w = 1 then [97, 100, 100] else if w = 2 then [115, 119, 97, 112] else if w = 3 then [102, 105, 108, 108] else [116, 117, 114, 110]
def tx_bl (b : Bool) : List Int := if b = true then [32] else []
def tx_cmd (w a b c : Int) (b1 b2 : Bool) : List Int := tx_wd w ++ (tx_bl b1 ++ (tx_dg a ++ ((if w = 1 ∧ b < 0 then [] else [32]) ++ (tx_nm b ++ ((if w = 3 then 32 :: tx_dg c else []) ++ (tx_bl b2 ++ [59]))))))
theorem tx_dg_l (v : Int) : ((tx_dg v).length : Int) = if v < 10 then 1 else 2 := by unfold tx_dg; split <;> simp
theorem tx_bl_l (b : Bool) : ((tx_bl b).length : Int) = if b = true then 1 else 0 := by unfold tx_bl; split <;> simp
theorem tx_wd_l (w : Int) : ((tx_wd w).length : Int) = if w = 0 ∨ w = 1 then 3 else 4 := by
  unfold tx_wd
  by_cases h0 : w = 0
  · simp [h0]
  · by_cases h1 : w = 1
    · simp [h1]
    · simp only [h0, h1, if_false, or_self]
      split
      · simp
      · split <;> simp
theorem tx_nm_l (v : Int) : ((tx_nm v).length : Int) ≤ 3 := by
  unfold tx_nm
  have h1 := tx_dg_l v
  have h2 := tx_dg_l (-v)
  split
  · simp only [List.length_cons]; split at h2 <;> omega
  · split at h1 <;> omega
variable {t : Int → Int} {L p v hi w a b c : Int}
theorem tx_dg_hd (hv : 0 ≤ v ∧ v ≤ 99) (h : tx_at t p (tx_dg v)) : 48 ≤ t p ∧ t p ≤ 57 := by
  unfold tx_dg at h
  split at h
  · have := h.1; omega
  · have := h.1; omega
theorem tx_nxt (h : p < L) : sp_nx t L p = t p := if_pos h
theorem tx_dgT (hp : p < L) (h : 48 ≤ t p ∧ t p ≤ 57) : sp_dg t L p = true := sp_dg_iff.mpr (by rw [tx_nxt hp]; exact h)
theorem tx_dgF (hp : p < L) (h : ¬ (48 ≤ t p ∧ t p ≤ 57)) : sp_dg t L p = false := by
  cases e : sp_dg t L p with
  | false => rfl
  | true => rw [sp_dg_iff, tx_nxt hp] at e; exact absurd e h
theorem tx_num (hv : 0 ≤ v ∧ v ≤ 99) (h : tx_at t p (tx_dg v)) (hL : p + ((tx_dg v).length : Int) < L) (hn : ¬ (48 ≤ t (p + ((tx_dg v).length : Int)) ∧ t (p + ((tx_dg v).length : Int)) ≤ 57)) : sp_nl t L p = ((tx_dg v).length : Int) ∧ sp_nv t L p = v ∧ ∀ lo hi, lo ≤ v → v ≤ hi → sp_nf t L p lo hi = -1 := by
  have hd := tx_dg_hd hv h
  rw [tx_dg_l] at *
  have key : sp_nl t L p = (if v < 10 then 1 else 2) ∧ sp_nv t L p = v := by
    unfold tx_dg at h
    unfold sp_nl sp_nv
    by_cases e : v < 10
    · rw [if_pos e] at h hL hn
      rw [if_pos e, tx_dgT (by omega) hd, tx_dgF hL hn]
      have := h.1
      simp; omega
    · rw [if_neg e] at h hL hn
      have h1 := h.1
      have h2 := h.2.1
      rw [if_neg e, tx_dgT (by omega) hd, tx_dgT (p := p + 1) (by omega) (by omega)]
      simp; omega
  refine ⟨key.1, key.2, fun lo hi h1 h2 => ?_⟩
  unfold sp_nf
  rw [key.1, key.2]
  rw [if_neg (by split <;> omega), tx_dgF hL hn]
  rfl
theorem tx_sk0 (h : t p ≠ 32) : sp_sk t L p = p := sp_sk_end (by unfold sp_nx; split; · exact h
                                                                 · decide)
theorem tx_skL (h : L ≤ p) : sp_sk t L p = p := sp_sk_end (by unfold sp_nx; rw [if_neg (by omega)]; decide)
theorem tx_sk1 (hL : p < L) (h : t p = 32) : sp_sk t L p = sp_sk t L (p + 1) := sp_sk_on (by rw [tx_nxt hL]; exact h)
theorem tx_skb {d : Bool} (hL : p + ((tx_bl d).length : Int) ≤ L) (h : tx_at t p (tx_bl d)) (h2 : L ≤ p + ((tx_bl d).length : Int) ∨ t (p + ((tx_bl d).length : Int)) ≠ 32) : sp_sk t L p = p + ((tx_bl d).length : Int) := by
  have key : ∀ x, L ≤ x ∨ t x ≠ 32 → sp_sk t L x = x := fun x hx => by
    rcases hx with hx | hx
    · exact tx_skL hx
    · exact tx_sk0 hx
  cases d with
  | false =>
    have e : ((tx_bl false).length : Int) = 0 := rfl
    rw [e, Int.add_zero] at h2 ⊢
    exact key p h2
  | true =>
    have e : ((tx_bl true).length : Int) = 1 := rfl
    rw [e] at h2 hL ⊢
    rw [tx_sk1 (by omega) h.1]
    exact key _ h2
theorem tx_lt3 (hL : p + 3 < L) (h0 : 97 ≤ t p ∧ t p ≤ 122) (h1 : 97 ≤ t (p + 1) ∧ t (p + 1) ≤ 122) (h2 : 97 ≤ t (p + 2) ∧ t (p + 2) ≤ 122) : sp_lt t L p = sp_lt t L (p + 3) := by
  rw [sp_lt_on (by rw [tx_nxt (by omega)]; exact h0), sp_lt_on (by rw [tx_nxt (by omega)]; exact h1), show p + 1 + 1 = p + 2 by omega, sp_lt_on (by rw [tx_nxt (by omega)]; exact h2), show p + 2 + 1 = p + 3 by omega]
theorem tx_lt0 (hL : p < L) (h : ¬ (97 ≤ t p ∧ t p ≤ 122)) : sp_lt t L p = p := sp_lt_end (by rw [tx_nxt hL]; exact h)
theorem tx_isw {q : Int} {cs : Int → Int} {n : Nat} (h : sp_isw t cs p q n = true) : q - p = n ∧ ∀ j : Nat, j < n → t (p + j) = cs j := by
  unfold sp_isw at h
  rw [Bool.and_eq_true, decide_eq_true_eq, sp_eqs_iff] at h
  exact h
theorem tx_isT {q : Int} {cs : Int → Int} {n : Nat} (h1 : q - p = n) (h2 : ∀ j : Nat, j < n → t (p + j) = cs j) : sp_isw t cs p q n = true := by
  unfold sp_isw
  rw [Bool.and_eq_true, decide_eq_true_eq, sp_eqs_iff]
  exact ⟨h1, h2⟩
theorem tx_isF {q : Int} {cs : Int → Int} {n : Nat} (h : q - p ≠ n ∨ ∃ j : Nat, j < n ∧ t (p + j) ≠ cs j) : sp_isw t cs p q n = false := by
  cases e : sp_isw t cs p q n with
  | false => rfl
  | true =>
    obtain ⟨e1, e2⟩ := tx_isw e
    rcases h with h | ⟨j, h1, h2⟩
    · exact absurd e1 h
    · exact absurd (e2 j h1) h2
theorem tx_is3 {cs : Int → Int} (h0 : t p = cs 0) (h1 : t (p + 1) = cs 1) (h2 : t (p + 2) = cs 2) : ∀ j : Nat, j < 3 → t (p + j) = cs j := by
  intro j hj
  rcases (show j = 0 ∨ j = 1 ∨ j = 2 by omega) with rfl | rfl | rfl
  · rw [show p + ((0 : Nat) : Int) = p by omega]; exact h0
  · exact h1
  · exact h2
theorem tx_is4 {cs : Int → Int} (h0 : t p = cs 0) (h1 : t (p + 1) = cs 1) (h2 : t (p + 2) = cs 2) (h3 : t (p + 3) = cs 3) : ∀ j : Nat, j < 4 → t (p + j) = cs j := by
  intro j hj
  rcases (show j = 0 ∨ j = 1 ∨ j = 2 ∨ j = 3 by omega) with rfl | rfl | rfl | rfl
  · rw [show p + ((0 : Nat) : Int) = p by omega]; exact h0
  · exact h1
  · exact h2
  · exact h3
theorem tx_word (hw : 0 ≤ w ∧ w ≤ 4) (h : tx_at t p (tx_wd w)) (hL : p + ((tx_wd w).length : Int) < L) (hn : ¬ (97 ≤ t (p + ((tx_wd w).length : Int)) ∧ t (p + ((tx_wd w).length : Int)) ≤ 122)) : sp_lt t L p = p + ((tx_wd w).length : Int) ∧ sp_wo t p (p + ((tx_wd w).length : Int)) = w := by
  have p0 : p + ((0 : Nat) : Int) = p := by omega
  rcases (show w = 0 ∨ w = 1 ∨ w = 2 ∨ w = 3 ∨ w = 4 by omega) with rfl | rfl | rfl | rfl | rfl
  · have e : ((tx_wd 0).length : Int) = 3 := rfl
    rw [e] at hL hn ⊢
    obtain ⟨h0, h1, h2, -⟩ := h
    rw [show p + 1 + 1 = p + 2 by omega] at h2
    refine ⟨by rw [tx_lt3 hL (by omega) (by omega) (by omega), tx_lt0 hL hn], ?_⟩
    unfold sp_wo
    rw [tx_isT (n := 3) (cs := sp_l3 115 101 116) (q := p + 3) (by omega) (tx_is3 h0 h1 h2)]
    rfl
  · have e : ((tx_wd 1).length : Int) = 3 := rfl
    rw [e] at hL hn ⊢
    obtain ⟨h0, h1, h2, -⟩ := h
    rw [show p + 1 + 1 = p + 2 by omega] at h2
    refine ⟨by rw [tx_lt3 hL (by omega) (by omega) (by omega), tx_lt0 hL hn], ?_⟩
    unfold sp_wo
    rw [tx_isF (n := 3) (cs := sp_l3 115 101 116) (Or.inr ⟨0, by decide, by rw [p0, h0]; decide⟩)]
    rw [tx_isT (n := 3) (cs := sp_l3 97 100 100) (q := p + 3) (by omega) (tx_is3 h0 h1 h2)]
    rfl
  · have e : ((tx_wd 2).length : Int) = 4 := rfl
    rw [e] at hL hn ⊢
    obtain ⟨h0, h1, h2, h3, -⟩ := h
    rw [show p + 1 + 1 = p + 2 by omega] at h2 h3
    rw [show p + 2 + 1 = p + 3 by omega] at h3
    refine ⟨by rw [tx_lt3 (by omega) (by omega) (by omega) (by omega), sp_lt_on (by rw [tx_nxt (by omega)]; omega), show p + 3 + 1 = p + 4 by omega, tx_lt0 hL hn], ?_⟩
    unfold sp_wo
    rw [tx_isF (n := 3) (cs := sp_l3 115 101 116) (Or.inl (by omega)), tx_isF (n := 3) (cs := sp_l3 97 100 100) (Or.inl (by omega))]
    rw [tx_isT (n := 4) (cs := sp_l4 115 119 97 112) (q := p + 4) (by omega) (tx_is4 h0 h1 h2 h3)]
    rfl
  · have e : ((tx_wd 3).length : Int) = 4 := rfl
    rw [e] at hL hn ⊢
    obtain ⟨h0, h1, h2, h3, -⟩ := h
    rw [show p + 1 + 1 = p + 2 by omega] at h2 h3
    rw [show p + 2 + 1 = p + 3 by omega] at h3
    refine ⟨by rw [tx_lt3 (by omega) (by omega) (by omega) (by omega), sp_lt_on (by rw [tx_nxt (by omega)]; omega), show p + 3 + 1 = p + 4 by omega, tx_lt0 hL hn], ?_⟩
    unfold sp_wo
    rw [tx_isF (n := 3) (cs := sp_l3 115 101 116) (Or.inl (by omega)), tx_isF (n := 3) (cs := sp_l3 97 100 100) (Or.inl (by omega)), tx_isF (n := 4) (cs := sp_l4 115 119 97 112) (Or.inr ⟨0, by decide, by rw [p0, h0]; decide⟩)]
    rw [tx_isT (n := 4) (cs := sp_l4 102 105 108 108) (q := p + 4) (by omega) (tx_is4 h0 h1 h2 h3)]
    rfl
  · have e : ((tx_wd 4).length : Int) = 4 := rfl
    rw [e] at hL hn ⊢
    obtain ⟨h0, h1, h2, h3, -⟩ := h
    rw [show p + 1 + 1 = p + 2 by omega] at h2 h3
    rw [show p + 2 + 1 = p + 3 by omega] at h3
    refine ⟨by rw [tx_lt3 (by omega) (by omega) (by omega) (by omega), sp_lt_on (by rw [tx_nxt (by omega)]; omega), show p + 3 + 1 = p + 4 by omega, tx_lt0 hL hn], ?_⟩
    unfold sp_wo
    rw [tx_isF (n := 3) (cs := sp_l3 115 101 116) (Or.inl (by omega)), tx_isF (n := 3) (cs := sp_l3 97 100 100) (Or.inl (by omega)), tx_isF (n := 4) (cs := sp_l4 115 119 97 112) (Or.inr ⟨0, by decide, by rw [p0, h0]; decide⟩), tx_isF (n := 4) (cs := sp_l4 102 105 108 108) (Or.inr ⟨0, by decide, by rw [p0, h0]; decide⟩)]
    rw [tx_isT (n := 4) (cs := sp_l4 116 117 114 110) (q := p + 4) (by omega) (tx_is4 h0 h1 h2 h3)]
    rfl
/-- how a typed command is read -/
theorem tx_parse {b1 b2 : Bool} (h : tx_at t p (tx_cmd w a b c b1 b2)) (hok : sp_cok hi w a b c) (hh : hi ≤ 98) (hc : w ≠ 3 → c = 0) (hL : p + ((tx_cmd w a b c b1 b2).length : Int) ≤ L) : sp_cw t L p = w ∧ sp_ca t L p = a ∧ sp_cb t L p = b ∧ sp_cc t L p = c ∧ sp_cf t L hi p = -1 ∧ sp_cp4 t L p + 1 = p + ((tx_cmd w a b c b1 b2).length : Int) := by
  obtain ⟨k1, k2, k3, k4, k5, k6, k7⟩ := hok
  unfold tx_cmd at h hL ⊢
  simp only [List.length_append] at hL ⊢
  rw [tx_app, tx_app, tx_app, tx_app, tx_app, tx_app, tx_app] at h
  obtain ⟨g1, g2, g3, g4, g5, g6, g7, g8, -⟩ := h
  generalize e1 : p + ((tx_wd w).length : Int) = p1 at *
  generalize e2 : p1 + ((tx_bl b1).length : Int) = p2 at *
  generalize e3 : p2 + ((tx_dg a).length : Int) = p3 at *
  generalize e4 : p3 + (((if w = 1 ∧ b < 0 then [] else [32] : List Int).length : Nat) : Int) = p4 at *
  generalize e5 : p4 + ((tx_nm b).length : Int) = p5 at *
  generalize e6 : p5 + (((if w = 3 then 32 :: tx_dg c else [] : List Int).length : Nat) : Int) = p6 at *
  generalize e7 : p6 + ((tx_bl b2).length : Int) = p7 at *
  have eL : p7 + 1 ≤ L := by
    have : (([59] : List Int).length : Int) = 1 := rfl
    push_cast at hL
    omega
  have eE : p + (((tx_wd w).length + ((tx_bl b1).length + ((tx_dg a).length + ((if w = 1 ∧ b < 0 then [] else [32] : List Int).length + ((tx_nm b).length + ((if w = 3 then 32 :: tx_dg c else [] : List Int).length + ((tx_bl b2).length + ([59] : List Int).length)))))) : Nat) : Int) = p7 + 1 := by
    have : (([59] : List Int).length : Int) = 1 := rfl
    push_cast
    omega
  rw [eE]
  have l1 := tx_wd_l w
  have l2 := tx_bl_l b1
  have l3 := tx_dg_l a
  have l7 := tx_bl_l b2
  have n4 : p3 ≤ p4 := by omega
  have n5 : p4 ≤ p5 := by omega
  have n6 : p5 ≤ p6 := by omega
  have n7 : p6 ≤ p7 := by omega
  have n1 : p < p1 := by split at l1 <;> omega
  have n2 : p1 ≤ p2 := by omega
  have n3 : p2 < p3 := by split at l3 <;> omega
  have ha9 : 0 ≤ a ∧ a ≤ 99 := by omega
  have d2 := tx_dg_hd ha9 g3
  have hb1 : t p1 = 32 ∨ (48 ≤ t p1 ∧ t p1 ≤ 57) := by
    cases b1 with
    | false => have : p1 = p2 := by have : ((tx_bl false).length : Int) = 0 := rfl
                                    omega
               rw [this]; exact Or.inr d2
    | true => exact Or.inl g2.1
  obtain ⟨w1, w2⟩ := tx_word k1 g1 (by omega) (by rw [e1]; omega) (L := L)
  rw [e1] at w1 w2
  have hcw : sp_cw t L p = w := by unfold sp_cw; rw [w1]; exact w2
  have hcp1 : sp_cp1 t L p = p2 := by
    unfold sp_cp1
    rw [w1, tx_skb (d := b1) (by omega) g2 (by rw [e2]; omega), e2]
  -- the sign or blank behind the first number
  have h3 : t p3 = 32 ∨ t p3 = 45 := by
    by_cases e : w = 1 ∧ b < 0
    · rw [if_pos e] at e4 g4
      have : p3 = p4 := by have : (([] : List Int).length : Int) = 0 := rfl
                           omega
      unfold tx_nm at g5
      rw [if_pos e.2] at g5
      rw [this]; exact Or.inr g5.1
    · rw [if_neg e] at g4; exact Or.inl g4.1
  obtain ⟨m1, m2, m3⟩ := tx_num (L := L) ha9 g3 (by omega) (by rw [e3]; omega)
  have hca : sp_ca t L p = a := by unfold sp_ca; rw [hcp1]; exact m2
  have hcf1 : sp_cf1 t L hi p = -1 := by unfold sp_cf1; rw [hcp1]; exact m3 0 hi k2.1 k2.2
  -- the end: blanks, then the semicolon
  have hend : sp_sk t L p6 = p7 := by rw [tx_skb (d := b2) (by omega) g7 (by rw [e7]; omega), e7]
  have h6 : t p6 = 32 ∨ t p6 = 59 := by
    cases b2 with
    | false => have : p6 = p7 := by have : ((tx_bl false).length : Int) = 0 := rfl
                                    omega
               rw [this]; exact Or.inr g8
    | true => exact Or.inl g7.1
  have h5 : t p5 = 32 ∨ t p5 = 59 := by
    by_cases e : w = 3
    · rw [if_pos e] at g6; exact Or.inl g6.1
    · rw [if_neg e] at e6
      have : p5 = p6 := by have : (([] : List Int).length : Int) = 0 := rfl
                           omega
      rw [this]; exact h6
  have n45 : p4 < p5 := by
    have q1 := tx_dg_l b
    have q2 := tx_dg_l (-b)
    unfold tx_nm at e5
    split at e5
    · simp only [List.length_cons] at e5; push_cast at e5; omega
    · split at q1 <;> omega
  have hnm : (w = 1 ∧ b < 0 → t p4 = 45 ∧ 1 + sp_nl t L (p4 + 1) = p5 - p4 ∧ sp_nv t L (p4 + 1) = -b ∧ sp_nf t L (p4 + 1) 0 99 = -1) ∧ (0 ≤ b → (48 ≤ t p4 ∧ t p4 ≤ 57) ∧ sp_nl t L p4 = p5 - p4 ∧ sp_nv t L p4 = b ∧ ∀ lo hi, lo ≤ b → b ≤ hi → sp_nf t L p4 lo hi = -1) := by
    have hb9 : -99 ≤ b ∧ b ≤ 99 := by
      rcases (show w = 0 ∨ w = 1 ∨ w = 2 ∨ 3 ≤ w by omega) with e | e | e | e
      · have := k3 e; omega
      · exact k4 e
      · have := k5 e; omega
      · have := k6 e; omega
    constructor
    · intro e
      unfold tx_nm at g5 e5
      rw [if_pos e.2] at g5 e5
      simp only [List.length_cons] at e5; push_cast at e5
      have e5' : p4 + 1 + ((tx_dg (-b)).length : Int) = p5 := by omega
      obtain ⟨z1, z2, z3⟩ := tx_num (L := L) (v := -b) (by omega) g5.2 (by omega) (by rw [e5']; omega)
      exact ⟨g5.1, by omega, z2, z3 0 99 (by omega) (by omega)⟩
    · intro e
      unfold tx_nm at g5 e5
      rw [if_neg (by omega)] at g5 e5
      obtain ⟨z1, z2, z3⟩ := tx_num (L := L) (v := b) (by omega) g5 (by omega) (by rw [e5]; omega)
      exact ⟨tx_dg_hd (by omega) g5, by omega, z2, z3⟩
  have hcp2 : sp_cp2 t L p = p4 := by
    unfold sp_cp2
    rw [hcp1, m1, e3]
    by_cases e : w = 1 ∧ b < 0
    · rw [if_pos e] at e4
      have e0 : p3 = p4 := by have : (([] : List Int).length : Int) = 0 := rfl
                              omega
      rw [e0, tx_sk0 (by rw [(hnm.1 e).1]; decide)]
    · rw [if_neg e] at e4 g4
      have e0 : p3 + 1 = p4 := by have : (([32] : List Int).length : Int) = 1 := rfl
                                  omega
      have hb0 : 0 ≤ b := by
        rcases (show w = 0 ∨ w = 1 ∨ w = 2 ∨ 3 ≤ w by omega) with e' | e' | e' | e'
        · exact (k3 e').1
        · exact Int.not_lt.mp fun z => e ⟨e', z⟩
        · exact (k5 e').1
        · have := k6 e'; omega
      rw [tx_sk1 (by omega) g4.1, e0, tx_sk0 (by have := (hnm.2 hb0).1; omega)]
  by_cases hw1 : w = 1
  · subst hw1
    have e6' : p5 = p6 := by
      rw [if_neg (by decide)] at e6
      have : (([] : List Int).length : Int) = 0 := rfl
      omega
    have hal : sp_cf2 t L hi p = -1 ∧ sp_cb t L p = b ∧ p4 + sp_al t L p4 = p5 := by
      unfold sp_cf2 sp_cb
      rw [hcw, if_neg (by decide), if_pos rfl, if_pos rfl, hcp2]
      unfold sp_af sp_av sp_al sp_mi
      by_cases e : b < 0
      · obtain ⟨y1, y2, y3, y4⟩ := hnm.1 ⟨rfl, e⟩
        rw [tx_nxt (by omega), y1, if_pos rfl]
        simp only [if_true]
        exact ⟨y4, by rw [y3]; omega, by omega⟩
      · obtain ⟨y1, y2, y3, y4⟩ := hnm.2 (by omega)
        rw [tx_nxt (by omega), if_neg (by omega)]
        rw [Int.add_zero]
        exact ⟨y4 0 99 (by omega) (by have := k4 rfl; omega), by rw [if_neg (by decide)]; exact y3, by omega⟩
    have hcp3 : sp_cp3 t L p = p7 := by
      unfold sp_cp3
      rw [hcw, if_pos rfl, hcp2, hal.2.2, e6', hend]
    have hcp4 : sp_cp4 t L p = p7 := by unfold sp_cp4; rw [hcw, if_neg (by decide)]; exact hcp3
    have hcf3 : sp_cf3 t L p = -1 := by unfold sp_cf3; rw [hcw, if_neg (by decide)]
    refine ⟨hcw, hca, hal.2.1, by unfold sp_cc; rw [hcw, if_neg (by decide)]; exact (hc (by decide)).symm, ?_, by rw [hcp4]⟩
    unfold sp_cf
    rw [hcw, hcf1, hal.1, hcf3, hcp4, tx_nxt (by omega), g8]
    rfl
  · have hb0 : 0 ≤ b := by
      rcases (show w = 0 ∨ w = 2 ∨ 3 ≤ w by omega) with e' | e' | e'
      · exact (k3 e').1
      · exact (k5 e').1
      · have := k6 e'; omega
    obtain ⟨y1, y2, y3, y4⟩ := hnm.2 hb0
    have hcb : sp_cb t L p = b := by unfold sp_cb; rw [hcw, if_neg hw1, hcp2]; exact y3
    have hcf2 : sp_cf2 t L hi p = -1 := by
      unfold sp_cf2
      rw [hcw, hcp2, hca]
      by_cases e0 : w = 0
      · rw [if_pos e0]; exact y4 0 99 hb0 (k3 e0).2
      · rw [if_neg e0, if_neg hw1]
        by_cases e2 : w = 2
        · rw [if_pos e2]; exact y4 0 hi hb0 (k5 e2).2
        · rw [if_neg e2]; have := k6 (by omega); exact y4 a hi this.1 this.2
    have hp5 : sp_cp3 t L p = sp_sk t L p5 := by
      unfold sp_cp3
      rw [hcw, if_neg hw1, hcp2, y2, show p4 + (p5 - p4) = p5 by omega]
    by_cases hw3 : w = 3
    · subst hw3
      rw [if_pos rfl] at e6 g6
      simp only [List.length_cons] at e6; push_cast at e6
      have e6' : p5 + 1 + ((tx_dg c).length : Int) = p6 := by omega
      have l6 := tx_dg_l c
      have n56 : p5 + 1 < p6 := by split at l6 <;> omega
      have d5 := tx_dg_hd k7 g6.2
      obtain ⟨x1, x2, x3⟩ := tx_num (L := L) k7 g6.2 (by omega) (by rw [e6']; omega)
      have hcp3 : sp_cp3 t L p = p5 + 1 := by rw [hp5, tx_sk1 (by omega) g6.1, tx_sk0 (by omega)]
      have hcp4 : sp_cp4 t L p = p7 := by unfold sp_cp4; rw [hcw, if_pos rfl, hcp3, x1, e6', hend]
      have hcf3 : sp_cf3 t L p = -1 := by unfold sp_cf3; rw [hcw, if_pos rfl, hcp3]; exact x3 0 99 k7.1 k7.2
      refine ⟨hcw, hca, hcb, by unfold sp_cc; rw [hcw, if_pos rfl, hcp3]; exact x2, ?_, by rw [hcp4]⟩
      unfold sp_cf
      rw [hcw, hcf1, hcf2, hcf3, hcp4, tx_nxt (by omega), g8]
      rfl
    · have e6' : p5 = p6 := by
        rw [if_neg hw3] at e6
        have : (([] : List Int).length : Int) = 0 := rfl
        omega
      have hcp3 : sp_cp3 t L p = p7 := by rw [hp5, e6', hend]
      have hcp4 : sp_cp4 t L p = p7 := by unfold sp_cp4; rw [hcw, if_neg hw3]; exact hcp3
      have hcf3 : sp_cf3 t L p = -1 := by unfold sp_cf3; rw [hcw, if_neg hw3]
      refine ⟨hcw, hca, hcb, by unfold sp_cc; rw [hcw, if_neg hw3]; exact (hc hw3).symm, ?_, by rw [hcp4]⟩
      unfold sp_cf
      rw [hcw, hcf1, hcf2, hcf3, hcp4, tx_nxt (by omega), g8, if_neg (by omega)]
      rfl
theorem tx_wd_hd (h : tx_at t p (tx_wd w)) : t p ≠ 32 := by
  unfold tx_wd at h
  split at h
  · rw [h.1]; decide
  · split at h
    · rw [h.1]; decide
    · split at h
      · rw [h.1]; decide
      · split at h
        · rw [h.1]; decide
        · rw [h.1]; decide
/-- the text l is k commands that bring the game m to mm -/
def tx_ok (hi : Int) (m : Int → Int) (l : List Int) (k : Nat) (mm : Int → Int) : Prop := ∀ (t : Int → Int) (L : Int), tx_at t 0 l → (l.length : Int) ≤ L → (L ≤ (l.length : Int) ∨ t (l.length : Int) ≠ 32) → (∀ i, i < k → sp_ps t L i < (l.length : Int) ∧ sp_cf t L hi (sp_ps t L i) = -1) ∧ sp_ps t L k = (l.length : Int) ∧ sp_run t L m k = mm
theorem tx_ok0 {m : Int → Int} (d : Bool) : tx_ok hi m (tx_bl d) 0 m := by
  intro t L h hL he
  refine ⟨fun i hi => absurd hi (Nat.not_lt_zero i), ?_, rfl⟩
  have := tx_skb (t := t) (L := L) (p := 0) (d := d) (by omega) h (by rw [Int.zero_add]; exact he)
  rw [Int.zero_add] at this
  exact this
theorem tx_ok1 {m mm : Int → Int} {l : List Int} {k : Nat} {b1 b2 : Bool} (h : tx_ok hi m l k mm) (hok : sp_cok hi w a b c) (hh : hi ≤ 98) (hc : w ≠ 3 → c = 0) : tx_ok hi m (l ++ tx_cmd w a b c b1 b2) (k + 1) (sp_ex w a b c mm) := by
  intro t L hat hL he
  rw [tx_app, Int.zero_add] at hat
  obtain ⟨ha, hb⟩ := hat
  simp only [List.length_append] at hL he ⊢
  push_cast at hL he ⊢
  have hpos : (0 : Int) < ((tx_cmd w a b c b1 b2).length : Int) := by
    unfold tx_cmd
    simp only [List.length_append]
    have := tx_wd_l w
    push_cast
    split at this <;> omega
  have hwd : tx_at t (l.length : Int) (tx_wd w) := by unfold tx_cmd at hb; rw [tx_app] at hb; exact hb.1
  obtain ⟨i1, i2, i3⟩ := h t L ha (by omega) (Or.inr (tx_wd_hd hwd))
  obtain ⟨c1, c2, c3, c4, c5, c6⟩ := tx_parse hb hok hh hc hL
  refine ⟨fun i hi => ?_, ?_, ?_⟩
  · by_cases e : i = k
    · subst e; rw [i2]; exact ⟨by omega, c5⟩
    · have := i1 i (by omega); exact ⟨by omega, this.2⟩
  · show sp_cn t L (sp_ps t L k) = _
    rw [i2]
    unfold sp_cn
    rw [c6]
    rcases he with he | he
    · exact tx_skL (by omega)
    · exact tx_sk0 he
  · show sp_ex (sp_cw t L (sp_ps t L k)) (sp_ca t L (sp_ps t L k)) (sp_cb t L (sp_ps t L k)) (sp_cc t L (sp_ps t L k)) (sp_run t L m k) = _
    rw [i2, i3, c1, c2, c3, c4]
theorem tx_sc {m mm : Int → Int} {l : List Int} {k : Nat} (h : tx_ok hi m l k mm) (hat : tx_at t 0 l) : sp_sc t (l.length : Int) hi k (-1) ∧ sp_run t (l.length : Int) m k = mm := by
  obtain ⟨i1, i2, i3⟩ := h t (l.length : Int) hat (Int.le_refl _) (Or.inl (Int.le_refl _))
  exact ⟨⟨i1, Or.inl ⟨rfl, by omega⟩⟩, i3⟩
theorem tx_cmd_l {b1 b2 : Bool} : ((tx_cmd w a b c b1 b2).length : Int) ≤ 16 := by
  unfold tx_cmd
  simp only [List.length_append]
  have h1 := tx_wd_l w
  have h2 := tx_bl_l b1
  have h3 := tx_dg_l a
  have h4 := tx_nm_l b
  have h5 := tx_dg_l c
  have h6 := tx_bl_l b2
  have h8 : (([59] : List Int).length : Int) = 1 := rfl
  have h9 : (([32] : List Int).length : Int) = 1 := rfl
  push_cast
  have q1 : ((tx_wd w).length : Int) ≤ 4 := by split at h1 <;> omega
  have q2 : ((tx_bl b1).length : Int) ≤ 1 := by split at h2 <;> omega
  have q3 : ((tx_dg a).length : Int) ≤ 2 := by split at h3 <;> omega
  have q5 : ((tx_dg c).length : Int) ≤ 2 := by split at h5 <;> omega
  have q6 : ((tx_bl b2).length : Int) ≤ 1 := by split at h6 <;> omega
  have q7 : ((if w = 1 ∧ b < 0 then [] else [32] : List Int).length : Int) ≤ 1 := by split <;> simp
  have q8 : ((if w = 3 then 32 :: tx_dg c else [] : List Int).length : Int) ≤ 3 := by
    split
    · simp only [List.length_cons]; push_cast; omega
    · simp
  omega
end TXSPEC
