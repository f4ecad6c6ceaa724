/-! rows written anew with the values that are read leave every reading as it was -/
theorem sp_dn_hit (v w : Int → Int) : ∀ (n : Nat) (i : Int), 0 ≤ i → i < sp_dn v w n → ∃ j : Int, 0 ≤ j ∧ j < n ∧ v j ≠ w j ∧ sp_dn v w j.toNat = i := by
  intro n
  induction n with
  | zero => intro i h0 h1; simp [sp_dn] at h1; omega
  | succ n ih =>
    intro i h0 h1
    have e : sp_dn v w (n + 1) = sp_dn v w n + (if v n = w n then 0 else 1) := rfl
    by_cases hlt : i < sp_dn v w n
    · obtain ⟨j, a, b, c, d⟩ := ih i h0 hlt
      exact ⟨j, a, by omega, c, d⟩
    · by_cases hne : v n = w n
      · rw [if_pos hne] at e
        omega
      · rw [if_neg hne] at e
        exact ⟨n, by omega, by omega, hne, by rw [show ((n : Nat) : Int).toNat = n by omega]; omega⟩
/-- an index that is an entry, and one that is none -/
theorem sp_en_in {v pl va : Int → Int} {j x : Int} : ∀ k : Nat, (∃ i : Int, 0 ≤ i ∧ i < k ∧ pl i = j) → (∀ i : Int, 0 ≤ i → i < k → pl i = j → va i = x) → sp_en v pl va k j = x := by
  intro k
  induction k with
  | zero => rintro ⟨i, h1, h2, -⟩; omega
  | succ k ih =>
    rintro ⟨i, h1, h2, h3⟩ h
    show (if j = pl k then va k else sp_en v pl va k j) = x
    by_cases hj : j = pl k
    · rw [if_pos hj]
      exact h k (by omega) (by omega) hj.symm
    · rw [if_neg hj]
      refine ih ⟨i, h1, ?_, h3⟩ (fun i a b c => h i a (by omega) c)
      by_cases hik : i = k
      · exact absurd (hik ▸ h3).symm hj
      · omega
theorem sp_en_out {v pl va : Int → Int} {j : Int} : ∀ k : Nat, (∀ i : Int, 0 ≤ i → i < k → pl i ≠ j) → sp_en v pl va k j = v j := by
  intro k
  induction k with
  | zero => intro _; rfl
  | succ k ih =>
    intro h
    show (if j = pl k then va k else sp_en v pl va k j) = v j
    rw [if_neg (fun q => h k (by omega) (by omega) q.symm)]
    exact ih fun i a b => h i a (by omega)
theorem sp_rowD_ent {m v w : Int → Int} {s b n : Int} (hn0 : 0 ≤ n) (hd : sp_rowD m s b n v w) {i : Int} (h0 : 0 ≤ i) (h1 : i < m (29 * s + 4)) : ∃ j : Int, 0 ≤ j ∧ j < n ∧ v j ≠ w j ∧ m (29 * s + (5 + i)) = j ∧ m (29 * s + (17 + i)) = w j := by
  obtain ⟨-, d2, d3⟩ := hd
  rw [d2] at h1
  obtain ⟨j, a, b, c, d⟩ := sp_dn_hit v w n.toNat i h0 h1
  have := d3 j a (by omega) c
  rw [d] at this
  exact ⟨j, a, by omega, c, this.1, this.2⟩
/-- a difference's entries laid over its base give the values -/
theorem sp_rowD_en {m v w u : Int → Int} {s b n : Int} (hn0 : 0 ≤ n) (hd : sp_rowD m s b n v w) (hu : ∀ j, 0 ≤ j → j < n → u j = v j) : ∀ j, 0 ≤ j → j < n → sp_en u (fun i => m (29 * s + (5 + i))) (fun i => m (29 * s + (17 + i))) (m (29 * s + 4)).toNat j = w j := by
  intro j h0 h1
  have hm4 : 0 ≤ m (29 * s + 4) := by rw [hd.2.1]; exact (sp_dn_in v w n.toNat).1
  by_cases hne : v j = w j
  · rw [sp_en_out _ (fun i a b => ?_), hu j h0 h1, hne]
    obtain ⟨j', c1, c2, c3, c4, c5⟩ := sp_rowD_ent hn0 hd a (i := i) (by omega)
    show m (29 * s + (5 + i)) ≠ j
    rw [c4]
    intro e
    rw [e] at c3
    exact c3 hne
  · refine sp_en_in _ ⟨sp_dn v w j.toNat, (sp_dn_in v w j.toNat).1, ?_, (hd.2.2 j h0 h1 hne).1⟩ (fun i a b c => ?_)
    · have h3 := sp_dn_mono v w (j.toNat + 1) n.toNat (by omega)
      have h4 : sp_dn v w (j.toNat + 1) = sp_dn v w j.toNat + (if v (j.toNat : Int) = w (j.toNat : Int) then 0 else 1) := rfl
      rw [show ((j.toNat : Nat) : Int) = j by omega, if_neg hne] at h4
      rw [hd.2.1]
      omega
    · obtain ⟨j', c1, c2, c3, c4, c5⟩ := sp_rowD_ent hn0 hd a (i := i) (by omega)
      have c' : m (29 * s + (5 + i)) = j := c
      rw [c4] at c'
      show m (29 * s + (17 + i)) = w j
      rw [c5, c']
def sp_n (m : Int → Int) (s : Int) : Int := 6 + 2 * m (29 * s + 1)
/-- m' is m with some rows written anew -/
def sp_rp (m m' : Int → Int) : Prop := (∀ j, 580 ≤ j → j ≤ 597 → m' j = m j) ∧ ∀ s, 0 ≤ s → s < m 580 → m' (29 * s) = m (29 * s) ∧ m' (29 * s + 1) = m (29 * s + 1) ∧ m' (29 * s + 2) = m (29 * s + 2) ∧ ((∀ j, 3 ≤ j → j < 29 → m' (29 * s + j) = m (29 * s + j)) ∨ (sp_R m (m (29 * s)) = -1 ∧ sp_rowW m' s (sp_n m s) (sp_V m (m (29 * s)))) ∨ (sp_R m (m (29 * s)) = -1 ∧ ∃ b, sp_R m b = -1 ∧ 0 ≤ b ∧ b < m (29 * s) ∧ m (29 * sp_slot m b + 1) ≤ m (29 * s + 1) ∧ sp_rowD m' s b (sp_n m s) (sp_rz (sp_V m b) (m (29 * sp_slot m b + 1)) (m (29 * s + 1))) (sp_V m (m (29 * s)))))
section SPRP
variable {m m' : Int → Int}
theorem sp_rp.rf : sp_rp m m := ⟨fun _ _ _ => rfl, fun _ _ _ => ⟨rfl, rfl, rfl, Or.inl fun _ _ _ => rfl⟩⟩
theorem sp_rp.c (h : sp_rp m m') : m' 580 = m 580 := h.1 580 (by omega) (by omega)
theorem sp_rp.slot (h : sp_rp m m') (n : Int) : sp_slot m' n = sp_slot m n := by
  rcases sp_slot_spec m n with ⟨h1, h2⟩ | ⟨h1, h2, h3, h4⟩
  · rw [h1]
    exact sp_slot_none fun j a b => by rw [(h.2 j a (by rw [← h.c]; exact b)).1]; exact h2 j a (by rw [← h.c]; exact b)
  · exact sp_slot_eq h1 (by rw [h.c]; exact h2) (by rw [(h.2 _ h1 h2).1]; exact h3) fun j a b => by rw [(h.2 j a (by omega)).1]; exact h4 j a b
theorem sp_rp.wt (h : sp_rp m m') (hw : sp_wt m) : sp_wt m' := by
  have hc := h.c
  have h81 := h.1 581 (by omega) (by omega)
  refine ⟨by rw [hc]; exact hw.c, by rw [h81]; exact hw.cm, ?_, ?_, ?_, ?_, ?_⟩
  · intro s s0 s1
    rw [hc] at s1
    obtain ⟨e0, e1, e2, e3⟩ := h.2 s s0 s1
    have hn := hw.num s0 s1
    have hf := hw.frm s0 s1
    have hb := hw.bas s0 s1
    rw [e0, e1, h81]
    refine ⟨hn.1, hn.2, hf.1, hf.2, ?_⟩
    rcases e3 with e3 | ⟨-, e3⟩ | ⟨-, b, b1, b2, b3, b4, e3⟩
    · rw [e3 3 (by omega) (by omega)]; exact hb
    · exact Or.inl e3.1
    · rw [e3.1]; exact Or.inr ⟨b2, b3⟩
  · intro s t s0 st t1
    rw [hc] at t1
    rw [(h.2 s s0 (by omega)).1, (h.2 t (by omega) t1).1]
    exact hw.asc s0 st t1
  · intro s s0 s1 hb
    rw [hc] at s1
    obtain ⟨e0, e1, e2, e3⟩ := h.2 s s0 s1
    rcases e3 with e3 | ⟨-, e3⟩ | ⟨-, b, b1, b2, b3, b4, e3⟩
    · rw [e3 3 (by omega) (by omega)] at hb
      obtain ⟨w1, w2⟩ := hw.whole s0 s1 hb
      have hm := hw.many s0 s1
      rw [e3 4 (by omega) (by omega), e1]
      refine ⟨w1, fun i a b => ?_⟩
      rw [e3 (5 + i) (by omega) (by omega)]
      exact w2 i a b
    · rw [e3.2.1, e1]
      exact ⟨rfl, fun i a b => (e3.2.2 i a b).1⟩
    · rw [e3.1] at hb; omega
  · intro s s0 s1
    rw [hc] at s1
    obtain ⟨e0, e1, e2, e3⟩ := h.2 s s0 s1
    have hf := hw.frm s0 s1
    rcases e3 with e3 | ⟨hR, e3⟩ | ⟨hR, b, b1, b2, b3, b4, e3⟩
    · have hm := hw.many s0 s1
      rw [e3 4 (by omega) (by omega), e1]
      refine ⟨hm.1, hm.2, fun i a b => ?_⟩
      rw [e3 (5 + i) (by omega) (by omega), e3 (17 + i) (by omega) (by omega)]
      exact hw.ent s0 s1 a b
    · have hok := sp_V_ok' hw hR
      rw [hw.slot s0 s1] at hok
      rw [e3.2.1, e1]
      unfold sp_n at *
      refine ⟨by omega, by omega, fun i a b => ?_⟩
      have := e3.2.2 i a b
      have := hok i a b
      omega
    · have hok := sp_V_ok' hw hR
      rw [hw.slot s0 s1] at hok
      have hn0 : 0 ≤ sp_n m s := by unfold sp_n; omega
      have hdn := sp_dn_in (sp_rz (sp_V m b) (m (29 * sp_slot m b + 1)) (m (29 * s + 1))) (sp_V m (m (29 * s))) (sp_n m s).toNat
      have hm4 := e3.2.1
      rw [e1]
      unfold sp_n at *
      refine ⟨by omega, by omega, fun i a c => ?_⟩
      obtain ⟨j, c1, c2, c3, c4, c5⟩ := sp_rowD_ent hn0 e3 a c
      have := hok j c1 c2
      omega
  · intro s t s0 s1 t0 t1 he
    rw [hc] at s1 t1
    obtain ⟨e0, e1, e2, e3⟩ := h.2 s s0 s1
    obtain ⟨f0, f1, f2, f3⟩ := h.2 t t0 t1
    rw [f0] at he
    rw [e1, f1]
    have ht := hw.num t0 t1
    rcases e3 with e3 | ⟨-, e3⟩ | ⟨-, b, b1, b2, b3, b4, e3⟩
    · rw [e3 3 (by omega) (by omega)] at he
      exact hw.fms s0 s1 t0 t1 he
    · rw [e3.1] at he; omega
    · rw [e3.1] at he
      rw [he, hw.slot t0 t1] at b4
      exact b4
theorem sp_rp.read (h : sp_rp m m') (hw : sp_wt m) : ∀ (k : Nat) (n : Int), n < k → sp_R m' n = sp_R m n ∧ (sp_R m n = -1 → ∀ j, 0 ≤ j → j < 6 + 2 * m (29 * sp_slot m n + 1) → sp_V m' n j = sp_V m n j) := by
  have hw' := h.wt hw
  have hsl := h.slot
  intro k
  induction k with
  | zero =>
    intro n hn
    have e1 := hw.neg (n := n) (by omega)
    have e2 := hw'.neg (n := n) (by omega)
    rw [sp_R_lost hw e1, sp_R_lost hw' e2]
    exact ⟨rfl, fun h => by omega⟩
  | succ k ih =>
    intro n hn
    by_cases hs : sp_slot m n = -1
    · rw [sp_R_lost hw hs, sp_R_lost hw' (by rw [hsl]; exact hs)]
      exact ⟨rfl, fun h => by omega⟩
    have hs' : sp_slot m' n ≠ -1 := by rw [hsl]; exact hs
    obtain ⟨s0, s1, s2⟩ := sp_slot_in hs
    obtain ⟨e0, e1, e2, e3⟩ := h.2 _ s0 s1
    have hf := hw.frm s0 s1
    have hn0 := hw.num s0 s1
    -- what is read of m', given as what it lays over what
    have fin : ∀ u : Int → Int, (sp_V m' n = u ∧ sp_R m' n = if sp_sm (sp_V m' n) (6 + 2 * m' (29 * sp_slot m' n + 1)).toNat = m' (29 * sp_slot m' n + 2) then -1 else 1) → sp_R m n = -1 → (∀ j, 0 ≤ j → j < 6 + 2 * m (29 * sp_slot m n + 1) → u j = sp_V m n j) → sp_sm (sp_V m n) (6 + 2 * m (29 * sp_slot m n + 1)).toNat = m (29 * sp_slot m n + 2) → sp_R m' n = sp_R m n ∧ (sp_R m n = -1 → ∀ j, 0 ≤ j → j < 6 + 2 * m (29 * sp_slot m n + 1) → sp_V m' n j = sp_V m n j) := by
      rintro u ⟨g1, g2⟩ hR hu hsum
      rw [g1] at g2
      refine ⟨?_, fun _ j a b => by rw [g1]; exact hu j a b⟩
      rw [g2, hR, hsl, e1, e2, sp_sm_congr hu, if_pos hsum]
    have sumR : sp_R m n = -1 → sp_sm (sp_V m n) (6 + 2 * m (29 * sp_slot m n + 1)).toNat = m (29 * sp_slot m n + 2) := by
      intro hR
      have hx : sp_R m n = if sp_sm (sp_V m n) (6 + 2 * m (29 * sp_slot m n + 1)).toNat = m (29 * sp_slot m n + 2) then -1 else 1 := by
        by_cases hb : sp_bs m n = -1
        · exact (sp_V_whole hw hs hb).2
        · by_cases hr : sp_R m (sp_bs m n) = -1
          · exact (sp_V_diff hw hs hb hr).2
          · rw [sp_R_bad hw hs hb hr] at hR; omega
      rw [hR] at hx
      by_cases hq : sp_sm (sp_V m n) (6 + 2 * m (29 * sp_slot m n + 1)).toNat = m (29 * sp_slot m n + 2)
      · exact hq
      · rw [if_neg hq] at hx; omega
    rw [s2] at e3
    rcases e3 with e3 | ⟨hR, e3⟩ | ⟨hR, b, b1, b2, b3, b4, e3⟩
    · -- the same row
      have hbs : sp_bs m' n = sp_bs m n := by
        unfold sp_bs
        rw [if_neg hs, if_neg hs', hsl, e3 3 (by omega) (by omega)]
      have hm4 := e3 4 (by omega) (by omega)
      have hmy := hw.many s0 s1
      have hen : ∀ u : Int → Int, ∀ j, sp_en u (fun i => m' (29 * sp_slot m' n + (5 + i))) (fun i => m' (29 * sp_slot m' n + (17 + i))) (m' (29 * sp_slot m' n + 4)).toNat j = sp_en u (fun i => m (29 * sp_slot m n + (5 + i))) (fun i => m (29 * sp_slot m n + (17 + i))) (m (29 * sp_slot m n + 4)).toNat j := by
        intro u j
        rw [hsl, hm4]
        have : ∀ q : Nat, (q : Int) ≤ m (29 * sp_slot m n + 4) → sp_en u (fun i => m' (29 * sp_slot m n + (5 + i))) (fun i => m' (29 * sp_slot m n + (17 + i))) q j = sp_en u (fun i => m (29 * sp_slot m n + (5 + i))) (fun i => m (29 * sp_slot m n + (17 + i))) q j := by
          intro q
          induction q with
          | zero => intro _; rfl
          | succ q ihq =>
            intro hq
            show (if j = m' (29 * sp_slot m n + (5 + (q : Int))) then m' (29 * sp_slot m n + (17 + (q : Int))) else _) = (if j = m (29 * sp_slot m n + (5 + (q : Int))) then m (29 * sp_slot m n + (17 + (q : Int))) else _)
            rw [e3 (5 + q) (by omega) (by omega), e3 (17 + q) (by omega) (by omega), ihq (by omega)]
        exact this _ (by omega)
      by_cases hb : sp_bs m n = -1
      · have a1 := sp_V_whole hw hs hb
        have a2 := sp_V_whole hw' hs' (by rw [hbs]; exact hb)
        have ev : sp_V m' n = sp_V m n := by
          rw [a1.1, a2.1]
          funext j
          exact hen _ j
        refine ⟨?_, fun _ j _ _ => by rw [ev]⟩
        rw [a1.2, a2.2, ev, hsl, e1, e2]
      · have hlt := hw.bs_lt hs
        have hib := ih (sp_bs m n) (by omega)
        by_cases hr : sp_R m (sp_bs m n) = -1
        · have a1 := sp_V_diff hw hs hb hr
          have a2 := sp_V_diff hw' hs' (by rw [hbs]; exact hb) (by rw [hbs, hib.1]; exact hr)
          have hsb := sp_R_slot hw (by omega : sp_R m (sp_bs m n) ≠ 0)
          obtain ⟨t0, t1, t2⟩ := sp_slot_in hsb
          have hfb := hw.frm t0 t1
          have hff := hw.fms s0 s1 t0 t1 (by rw [t2]; unfold sp_bs; rw [if_neg hs])
          have e1b := (h.2 _ t0 t1).2.1
          have ev : ∀ j, 0 ≤ j → j < 6 + 2 * m (29 * sp_slot m n + 1) → sp_V m' n j = sp_V m n j := by
            intro j a b
            rw [a1.1, a2.1, hen, hbs, hsl, hsl, e1, e1b]
            exact sp_en_congr (sp_rz_congr hfb.1 hff hf.2 (hib.2 hr)) _ j a b
          refine ⟨?_, fun _ => ev⟩
          rw [a1.2, a2.2, hsl, e1, e2, sp_sm_congr ev]
        · rw [sp_R_bad hw hs hb hr, sp_R_bad hw' hs' (by rw [hbs]; exact hb) (by rw [hbs, hib.1]; exact hr)]
          exact ⟨rfl, fun h => by omega⟩
    · -- whole now
      have hb' : sp_bs m' n = -1 := by unfold sp_bs; rw [if_neg hs', hsl]; exact e3.1
      have a2 := sp_V_whole hw' hs' hb'
      refine fin _ a2 hR (fun j a c => ?_) (sumR hR)
      have h4 := e3.2.1
      have hpl : ∀ i, 0 ≤ i → i < sp_n m (sp_slot m n) → m' (29 * sp_slot m n + (5 + i)) = i ∧ m' (29 * sp_slot m n + (17 + i)) = sp_V m n i := fun i a b => e3.2.2 i a b
      have hnn : sp_n m (sp_slot m n) = 6 + 2 * m (29 * sp_slot m n + 1) := rfl
      rw [hsl, sp_en_all _ (fun i a b => (hpl i a (by omega)).1) j a (by omega)]
      exact (hpl j a (by omega)).2
    · -- a difference now
      have hb' : sp_bs m' n = b := by unfold sp_bs; rw [if_neg hs', hsl]; exact e3.1
      have hib := ih b (by omega)
      have a2 := sp_V_diff hw' hs' (by rw [hb']; omega) (by rw [hb', hib.1]; exact b1)
      refine fin _ a2 hR (fun j a c => ?_) (sumR hR)
      have hsb := sp_R_slot hw (by omega : sp_R m b ≠ 0)
      obtain ⟨t0, t1, t2⟩ := sp_slot_in hsb
      have hfb := hw.frm t0 t1
      have e1b := (h.2 _ t0 t1).2.1
      rw [hsl, hb', hsl, e1, e1b]
      exact sp_rowD_en (by unfold sp_n; omega) e3 (fun i a b => sp_rz_congr hfb.1 b4 hf.2 (hib.2 b1) i a b) j a c
theorem sp_rp.R (h : sp_rp m m') (hw : sp_wt m) (n : Int) : sp_R m' n = sp_R m n := (h.read hw (n + 1).toNat n (by omega)).1
theorem sp_rp.V (h : sp_rp m m') (hw : sp_wt m) {n : Int} (hR : sp_R m n = -1) : ∀ j, 0 ≤ j → j < 6 + 2 * m (29 * sp_slot m n + 1) → sp_V m' n j = sp_V m n j := (h.read hw (n + 1).toNat n (by omega)).2 hR
end SPRP
theorem sp_ww_cg {m w w' : Int → Int} {s n : Int} (h : ∀ j, 0 ≤ j → j < n → w j = w' j) : sp_ww m s n 12 w = sp_ww m s n 12 w' := by
  funext j
  unfold sp_ww
  split
  · rfl
  · split
    · rfl
    · split
      · rfl
      · split
        · split
          · exact h _ (by omega) (by omega)
          · rfl
        · rfl
theorem sp_wd_cg {m v w v' w' : Int → Int} {s n : Int} (hv : ∀ j, 0 ≤ j → j < n → v j = v' j) (hw : ∀ j, 0 ≤ j → j < n → w j = w' j) : sp_wd m s v w n.toNat = sp_wd m s v' w' n.toNat := by
  have : ∀ k : Nat, (k : Int) ≤ n → sp_wd m s v w k = sp_wd m s v' w' k := by
    intro k
    induction k with
    | zero => intro _; rfl
    | succ k ih =>
      intro hk
      have e := sp_dn_congr (v := v) (w := w) (v' := v') (w' := w') (n := (k : Int)) (fun j a b => hv j a (by omega)) (fun j a b => hw j a (by omega))
      rw [show ((k : Int)).toNat = k by omega] at e
      show (if v k = w k then sp_wd m s v w k else sp_up (sp_up (sp_wd m s v w k) (29 * s + (5 + sp_dn v w k)) k) (29 * s + (17 + sp_dn v w k)) (w k)) = (if v' k = w' k then sp_wd m s v' w' k else sp_up (sp_up (sp_wd m s v' w' k) (29 * s + (5 + sp_dn v' w' k)) k) (29 * s + (17 + sp_dn v' w' k)) (w' k))
      rw [ih (by omega), e, hv k (by omega) (by omega), hw k (by omega) (by omega)]
  by_cases hn : 0 ≤ n
  · exact this _ (by omega)
  · rw [show n.toNat = 0 by omega]
    rfl
/-- mending: each difference on the number x that can be read becomes whole -/
def sp_mdi (m : Int → Int) (x : Int) : Nat → Int → Int
  | 0 => m
  | k + 1 => if m (29 * (k : Int) + 3) = x ∧ sp_R m (m (29 * (k : Int))) = -1 then sp_ww (sp_mdi m x k) k (sp_n m k) 12 (sp_V m (m (29 * (k : Int)))) else sp_mdi m x k
theorem sp_rp_at {m m' : Int → Int} {s : Int} {m2 : Int → Int} (hw : sp_wt m) (hr : sp_rp m m') (hs0 : 0 ≤ s) (hs1 : s < m 580) (h2 : ∀ j, ¬ (29 * s + 3 ≤ j ∧ j < 29 * s + 29) → m2 j = m' j) (h3 : (sp_R m (m (29 * s)) = -1 ∧ sp_rowW m2 s (sp_n m s) (sp_V m (m (29 * s)))) ∨ (sp_R m (m (29 * s)) = -1 ∧ ∃ b, sp_R m b = -1 ∧ 0 ≤ b ∧ b < m (29 * s) ∧ m (29 * sp_slot m b + 1) ≤ m (29 * s + 1) ∧ sp_rowD m2 s b (sp_n m s) (sp_rz (sp_V m b) (m (29 * sp_slot m b + 1)) (m (29 * s + 1))) (sp_V m (m (29 * s))))) : sp_rp m m2 := by
  have hc := hw.c
  refine ⟨fun j a b => by rw [h2 j (by omega)]; exact hr.1 j a b, fun t t0 t1 => ?_⟩
  obtain ⟨e0, e1, e2, e3⟩ := hr.2 t t0 t1
  refine ⟨by rw [h2 _ (by omega)]; exact e0, by rw [h2 _ (by omega)]; exact e1, by rw [h2 _ (by omega)]; exact e2, ?_⟩
  by_cases hts : t = s
  · subst hts
    exact Or.inr h3
  · have hrow : ∀ j, 29 * t + 3 ≤ j → j < 29 * t + 29 → m2 j = m' j := fun j a b => h2 j (by omega)
    rcases e3 with e3 | ⟨hR, e3⟩ | ⟨hR, b, b1, b2, b3, b4, e3⟩
    · exact Or.inl fun j a b => by rw [hrow _ (by omega) (by omega)]; exact e3 j a b
    · exact Or.inr (Or.inl ⟨hR, sp_rowW_mv (by have := hw.frm t0 t1; unfold sp_n; omega) hrow e3⟩)
    · exact Or.inr (Or.inr ⟨hR, b, b1, b2, b3, b4, sp_rowD_mv (by have := hw.frm t0 t1; unfold sp_n; omega) (by have := hw.frm t0 t1; unfold sp_n; omega) hrow e3⟩)
theorem sp_mdi_s {m : Int → Int} {x i : Int} (h : 0 ≤ i) : sp_mdi m x (i + 1).toNat = if m (29 * i + 3) = x ∧ sp_R m (m (29 * i)) = -1 then sp_ww (sp_mdi m x i.toNat) i (sp_n m i) 12 (sp_V m (m (29 * i))) else sp_mdi m x i.toNat := by
  rw [show (i + 1).toNat = i.toNat + 1 by omega]
  show (if m (29 * (i.toNat : Int) + 3) = x ∧ sp_R m (m (29 * (i.toNat : Int))) = -1 then sp_ww (sp_mdi m x i.toNat) (i.toNat : Int) (sp_n m (i.toNat : Int)) 12 (sp_V m (m (29 * (i.toNat : Int)))) else sp_mdi m x i.toNat) = _
  rw [show ((i.toNat : Nat) : Int) = i by omega]
theorem sp_mdi_rp {m : Int → Int} {x : Int} (hw : sp_wt m) : ∀ k : Nat, (k : Int) ≤ m 580 → sp_rp m (sp_mdi m x k) ∧ ∀ j, 29 * (k : Int) ≤ j → sp_mdi m x k j = m j := by
  intro k
  induction k with
  | zero => intro _; exact ⟨sp_rp.rf, fun _ _ => rfl⟩
  | succ k ih =>
    intro hk
    obtain ⟨h1, h2⟩ := ih (by omega)
    have hf := hw.frm (s := (k : Int)) (by omega) (by omega)
    have hn : sp_n m k ≤ 12 := by unfold sp_n; omega
    show sp_rp m (if m (29 * (k : Int) + 3) = x ∧ sp_R m (m (29 * (k : Int))) = -1 then sp_ww (sp_mdi m x k) k (sp_n m k) 12 (sp_V m (m (29 * (k : Int)))) else sp_mdi m x k) ∧ ∀ j, 29 * ((k + 1 : Nat) : Int) ≤ j → (if m (29 * (k : Int) + 3) = x ∧ sp_R m (m (29 * (k : Int))) = -1 then sp_ww (sp_mdi m x k) k (sp_n m k) 12 (sp_V m (m (29 * (k : Int)))) else sp_mdi m x k) j = m j
    by_cases hq : m (29 * (k : Int) + 3) = x ∧ sp_R m (m (29 * (k : Int))) = -1
    · rw [if_pos hq]
      refine ⟨sp_rp_at hw h1 (s := (k : Int)) (by omega) (by omega) (fun j a => sp_ww_out a) (Or.inl ⟨hq.2, sp_ww_row hn⟩), fun j a => ?_⟩
      rw [sp_ww_out (by omega)]
      exact h2 j (by omega)
    · rw [if_neg hq]
      exact ⟨h1, fun j a => h2 j (by omega)⟩
/-- a row taken out -/
def sp_sh (mm : Int → Int) (s c x : Int) : Int → Int := fun j => if j = 595 then (if mm 595 = x then -1 else mm 595) else if j = 580 then c - 1 else if 29 * s ≤ j ∧ j < 29 * (c - 1) then mm (j + 29) else mm j
def sp_drop (m : Int → Int) (x md : Int) : Int → Int := sp_sh (if md = 1 then sp_mdi m x (m 580).toNat else m) (sp_slot m x) (m 580) x
/-- packing, place by place -/
def sp_pkb (m mi : Int → Int) (s : Int) : Int := (sp_am (fun t => m (29 * t + 1) ≤ m (29 * s + 1) ∧ sp_lk mi (m (29 * t)) < m 596 ∧ sp_R m (m (29 * t)) = -1) (fun t => sp_dn (sp_rz (sp_V m (m (29 * t))) (m (29 * t + 1)) (m (29 * s + 1))) (sp_V m (m (29 * s))) (sp_n m s).toNat) 7 s.toNat).1
def sp_pkf (m mi : Int → Int) (s : Int) : Int → Int :=
  if sp_R m (m (29 * s)) ≠ -1 then mi
  else if sp_pkb m mi s = -1 then sp_ww mi s (sp_n m s) 12 (sp_V m (m (29 * s)))
  else sp_up (sp_up (sp_wd mi s (sp_rz (sp_V m (m (29 * sp_pkb m mi s))) (m (29 * sp_pkb m mi s + 1)) (m (29 * s + 1))) (sp_V m (m (29 * s))) (sp_n m s).toNat) (29 * s + 3) (m (29 * sp_pkb m mi s))) (29 * s + 4) (sp_dn (sp_rz (sp_V m (m (29 * sp_pkb m mi s))) (m (29 * sp_pkb m mi s + 1)) (m (29 * s + 1))) (sp_V m (m (29 * s))) (sp_n m s).toNat)
def sp_pki (m : Int → Int) : Nat → Int → Int
  | 0 => m
  | k + 1 => sp_pkf m (sp_pki m k) k
def sp_pack (m : Int → Int) : Int → Int := sp_pki m (m 580).toNat
theorem sp_pki_s {m : Int → Int} {i : Int} (h : 0 ≤ i) : sp_pki m (i + 1).toNat = sp_pkf m (sp_pki m i.toNat) i := by
  rw [show (i + 1).toNat = i.toNat + 1 by omega]
  show sp_pkf m (sp_pki m i.toNat) (i.toNat : Int) = _
  rw [show ((i.toNat : Nat) : Int) = i by omega]
theorem sp_pkb_spec {m mi : Int → Int} {s : Int} (h0 : 0 ≤ s) (h : sp_pkb m mi s ≠ -1) : 0 ≤ sp_pkb m mi s ∧ sp_pkb m mi s < s ∧ m (29 * sp_pkb m mi s + 1) ≤ m (29 * s + 1) ∧ sp_lk mi (m (29 * sp_pkb m mi s)) < m 596 ∧ sp_R m (m (29 * sp_pkb m mi s)) = -1 := by
  have := sp_am_spec (p := fun t => m (29 * t + 1) ≤ m (29 * s + 1) ∧ sp_lk mi (m (29 * t)) < m 596 ∧ sp_R m (m (29 * t)) = -1) (d := fun t => sp_dn (sp_rz (sp_V m (m (29 * t))) (m (29 * t + 1)) (m (29 * s + 1))) (sp_V m (m (29 * s))) (sp_n m s).toNat) (b := 7) s.toNat
  unfold sp_pkb at h ⊢
  rcases this with ⟨h1, -⟩ | ⟨h1, h2, ⟨h3, h4, h5⟩, -⟩
  · exact absurd h1 h
  · exact ⟨h1, by omega, h3, h4, h5⟩
theorem sp_pki_rp {m : Int → Int} (hw : sp_wt m) : ∀ k : Nat, (k : Int) ≤ m 580 → sp_rp m (sp_pki m k) ∧ ∀ j, 29 * (k : Int) ≤ j → sp_pki m k j = m j := by
  intro k
  induction k with
  | zero => intro _; exact ⟨sp_rp.rf, fun _ _ => rfl⟩
  | succ k ih =>
    intro hk
    obtain ⟨h1, h2⟩ := ih (by omega)
    have hf := hw.frm (s := (k : Int)) (by omega) (by omega)
    have hn : sp_n m k ≤ 12 := by unfold sp_n; omega
    have hn0 : 0 ≤ sp_n m k := by unfold sp_n; omega
    show sp_rp m (sp_pkf m (sp_pki m k) k) ∧ ∀ j, 29 * ((k + 1 : Nat) : Int) ≤ j → sp_pkf m (sp_pki m k) k j = m j
    unfold sp_pkf
    by_cases hR : sp_R m (m (29 * (k : Int))) = -1
    · rw [if_neg (by omega)]
      by_cases hb : sp_pkb m (sp_pki m k) k = -1
      · rw [if_pos hb]
        refine ⟨sp_rp_at hw h1 (s := (k : Int)) (by omega) (by omega) (fun j a => sp_ww_out a) (Or.inl ⟨hR, sp_ww_row hn⟩), fun j a => ?_⟩
        rw [sp_ww_out (by omega)]
        exact h2 j (by omega)
      · rw [if_neg hb]
        obtain ⟨b1, b2, b3, b4, b5⟩ := sp_pkb_spec (by omega) hb
        have hsl := hw.slot b1 (by omega)
        have hnb := hw.num b1 (by omega)
        have hlt := hw.asc b1 b2 (by omega : (k : Int) < m 580)
        refine ⟨sp_rp_at hw h1 (s := (k : Int)) (by omega) (by omega) (fun j a => sp_rowD_out hn a) (Or.inr ⟨hR, m (29 * sp_pkb m (sp_pki m k) k), b5, hnb.1, hlt, by rw [hsl]; exact b3, by rw [hsl]; exact sp_rowD_of hn0 hn (fun _ _ _ => rfl) (fun _ _ _ => rfl)⟩), fun j a => ?_⟩
        rw [sp_rowD_out hn (by omega)]
        exact h2 j (by omega)
    · rw [if_pos hR]
      exact ⟨h1, fun j a => h2 j (by omega)⟩
