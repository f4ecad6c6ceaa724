section SPINV
variable {m m' : Int → Int}
theorem sp_wt.tab (hw : sp_wt m) (h : ∀ j, 0 ≤ j → j < 582 → m' j = m j) : sp_wt m' := by
  have hc := hw.c
  have e580 := h 580 (by omega) (by omega)
  have e581 := h 581 (by omega) (by omega)
  have hr : ∀ s j, 0 ≤ s → s < m 580 → 0 ≤ j → j < 29 → m' (29 * s + j) = m (29 * s + j) := fun s j a b c d => h _ (by omega) (by omega)
  have hr0 : ∀ s, 0 ≤ s → s < m 580 → m' (29 * s) = m (29 * s) := fun s a b => h _ (by omega) (by omega)
  refine ⟨by rw [e580]; exact hc, by rw [e581]; exact hw.cm, fun s a b => ?_, fun s t a b c => ?_, fun s a b hb => ?_, fun s a b => ?_, fun s t a b c d he => ?_⟩
  · rw [e580] at b
    rw [hr0 s a b, e581, hr s 1 a b (by omega) (by omega), hr s 3 a b (by omega) (by omega)]
    exact ⟨(hw.num a b).1, (hw.num a b).2, (hw.frm a b).1, (hw.frm a b).2, hw.bas a b⟩
  · rw [e580] at c
    rw [hr0 s a (by omega), hr0 t (by omega) c]; exact hw.asc a b c
  · rw [e580] at b
    rw [hr s 3 a b (by omega) (by omega)] at hb
    obtain ⟨h1, h2⟩ := hw.whole a b hb
    have hm := hw.many a b
    rw [hr s 4 a b (by omega) (by omega), hr s 1 a b (by omega) (by omega)]
    exact ⟨h1, fun i i0 i1 => by rw [hr s _ a b (by omega) (by omega)]; exact h2 i i0 i1⟩
  · rw [e580] at b
    have hm := hw.many a b
    rw [hr s 4 a b (by omega) (by omega), hr s 1 a b (by omega) (by omega)]
    refine ⟨hm.1, hm.2, fun i i0 i1 => ?_⟩
    rw [hr s _ a b (by omega) (by omega), hr s _ a b (by omega) (by omega)]
    exact hw.ent a b i0 i1
  · rw [e580] at b d
    rw [hr s 3 a b (by omega) (by omega), hr0 t c d] at he
    rw [hr s 1 a b (by omega) (by omega), hr t 1 c d (by omega) (by omega)]
    exact hw.fms a b c d he
theorem sp_slot.tab (hc : m 580 ≤ 20) (h : ∀ j, 0 ≤ j → j < 582 → m' j = m j) (n : Int) : sp_slot m' n = sp_slot m n := by
  have e580 := h 580 (by omega) (by omega)
  rcases sp_slot_spec m n with ⟨h1, h2⟩ | ⟨h1, h2, h3, h4⟩
  · rw [h1]; exact sp_slot_none fun j a b => by rw [e580] at b; rw [h _ (by omega) (by omega)]; exact h2 j a b
  · exact sp_slot_eq h1 (by rw [e580]; exact h2) (by rw [h _ (by omega) (by omega)]; exact h3) fun j a b => by rw [h _ (by omega) (by omega)]; exact h4 j a b
/-- a game over the same table is sound -/
theorem sp_wg.mk (hw : sp_wt m) (h : ∀ j, 0 ≤ j → j < 582 → m' j = m j) (h1 : 1 ≤ m' 582 ∧ m' 582 ≤ 3) (h2 : ∀ j, 0 ≤ j → j < 6 + 2 * m' 582 → 0 ≤ m' (583 + j) ∧ m' (583 + j) ≤ 99) (h3 : m' 595 = -1 ∨ (0 ≤ m' 595 ∧ sp_slot m (m' 595) ≠ -1 ∧ m (29 * sp_slot m (m' 595) + 1) ≤ m' 582)) (h4 : 1 ≤ m' 596 ∧ m' 596 ≤ 8) (h5 : 0 ≤ m' 597 ∧ m' 597 ≤ 1) : sp_wg m' := by
  refine ⟨h1, fun j a b => h2 j a b, ?_, h4, h5⟩
  rcases h3 with h3 | ⟨g1, g2, g3⟩
  · exact Or.inl h3
  · refine Or.inr ⟨g1, by rw [sp_slot.tab hw.c.2 h]; exact g2, ?_⟩
    obtain ⟨s0, s1, s2⟩ := sp_slot_in g2
    have := hw.c
    rw [sp_slot.tab hw.c.2 h, h _ (by omega) (by omega)]; exact g3
theorem sp_ext_wt (hw : sp_wt m) (h : ∀ j, 0 ≤ j → j < 598 → m' j = m j) : sp_wt m' := hw.tab fun j a b => h j a (by omega)
theorem sp_ext_wg (hw : sp_wt m) (hg : sp_wg m) (h : ∀ j, 0 ≤ j → j < 598 → m' j = m j) : sp_wg m' := by
  have e1 := h 582 (by omega) (by omega)
  have e2 := h 595 (by omega) (by omega)
  have e3 := h 596 (by omega) (by omega)
  have e4 := h 597 (by omega) (by omega)
  have hf := hg.f
  refine sp_wg.mk hw (fun j a b => h j a (by omega)) (by rw [e1]; exact hf) (fun j a b => ?_) (by rw [e2, e1]; exact hg.o) (by rw [e3]; exact hg.l) (by rw [e4]; exact hg.r)
  rw [e1] at b
  rw [h _ (by omega) (by omega)]; exact hg.v j a b
theorem sv_V1.ext {f : sv_F} {q : Nat} {kp : Int → Nat} (hv : sv_V1 f q kp m) (hw : sp_wt m) (hg : m 582 ≤ 3) (h : ∀ j, 0 ≤ j → j < 598 → m' j = m j) : sv_V1 f q kp m' := by
  have hc := hw.c
  unfold sv_V1
  rw [h 582 (by omega) (by omega), h 595 (by omega) (by omega), h 581 (by omega) (by omega), h 580 (by omega) (by omega), h 596 (by omega) (by omega), h 597 (by omega) (by omega)]
  refine ⟨hv.form, hv.orig, hv.came, hv.size, fun j a b => ?_, hv.lim, hv.ris, fun s a b => (hv.o a b).ext (hw.many a b) fun j c d => h j (by omega) (by omega)⟩
  rw [h _ (by omega) (by omega)]; exact hv.val a b
theorem sp_set_ok (hw : sp_wt m) (hg : sp_wg m) {w v : Int} (h : 0 ≤ w ∧ w ≤ 1) (hv : (if w = 0 then 1 else 0) ≤ v ∧ v ≤ (if w = 0 then 8 else 1)) : sp_wt (sp_up m (596 + w) v) ∧ sp_wg (sp_up m (596 + w) v) := by
  have ht : ∀ j, 0 ≤ j → j < 582 → sp_up m (596 + w) v j = m j := fun j a b => sp_up_ne (by omega)
  have hf := hg.f
  refine ⟨hw.tab ht, sp_wg.mk hw ht (by rw [sp_up_ne (by omega)]; exact hf) (fun j a b => ?_) (by rw [sp_up_ne (by omega), sp_up_ne (by omega)]; exact hg.o) ?_ ?_⟩
  · rw [sp_up_ne (by omega)] at b
    rw [sp_up_ne (by omega)]; exact hg.v j a b
  · by_cases e : w = 0
    · subst e; rw [show sp_up m (596 + 0) v 596 = v by simp [sp_up]]; simpa using hv
    · rw [sp_up_ne (by omega)]; exact hg.l
  · by_cases e : w = 1
    · subst e; rw [show sp_up m (596 + 1) v 597 = v by simp [sp_up]]; simpa using hv
    · rw [sp_up_ne (by omega)]; exact hg.r
theorem sp_raise_ok (hw : sp_wt m) (hg : sp_wg m) (h3 : m 582 ≠ 3) (h : sp_raise m m') : sp_wt m' ∧ sp_wg m' := by
  obtain ⟨t1, t2, t3, t4, t5, t6⟩ := h
  have hf := hg.f
  refine ⟨hw.tab t1, sp_wg.mk hw t1 (by omega) (fun j a b => ?_) ?_ (by rw [t4]; exact hg.l) (by rw [t5]; exact hg.r)⟩
  · rw [t2] at b
    rw [t6 j a b]
    exact sp_rz_ok hf.1 (by omega) (by omega) (fun i x y => hg.v i x y) j a b
  · rw [t3, t2]
    rcases hg.o with h | ⟨h1, h2, h4⟩
    · exact Or.inl h
    · exact Or.inr ⟨h1, h2, by omega⟩
theorem sp_load_ok (hw : sp_wt m) (hg : sp_wg m) {k : Int} (hs : sp_slot m k ≠ -1) (hR : sp_R m k = -1) (h : sp_load m k m') : sp_wt m' ∧ sp_wg m' := by
  obtain ⟨t1, t2, t3, t4, t5, t6⟩ := h
  have hf := hg.f
  obtain ⟨s0, s1, s2⟩ := sp_slot_in hs
  have hfm := hw.frm s0 s1
  have hnm := hw.num s0 s1
  have hF : m (29 * sp_slot m k + 1) ≤ sp_lform m k ∧ sp_lform m k ≤ 3 := by unfold sp_lform; split <;> omega
  refine ⟨hw.tab t1, sp_wg.mk hw t1 (by omega) (fun j a b => ?_) ?_ (by rw [t4]; exact hg.l) (by rw [t5]; exact hg.r)⟩
  · rw [t2] at b
    rw [t6 j a b]
    exact sp_rz_ok hfm.1 hF.1 hF.2 (sp_V_ok' hw hR) j a b
  · rw [t3, t2]
    exact Or.inr ⟨by omega, hs, hF.1⟩
theorem sp_play_ok (hw : sp_wt m) (hg : sp_wg m) {t : Int → Int} {L φ : Int} {c : Nat} (hL : 0 ≤ L) (h : sp_sc t L (6 + 2 * m 582 - 1) c φ) : sp_wt (sp_run t L m c) ∧ sp_wg (sp_run t L m c) := by
  have hf := hg.f
  obtain ⟨r1, r2⟩ := sp_run_ok (t := t) (L := L) (hi := 6 + 2 * m 582 - 1) (m := m) (c := c) hL (by omega) (fun j a b => hg.v j a (by omega)) h.1
  refine ⟨hw.tab fun j a b => r2 j (by omega), sp_wg.mk hw (fun j a b => r2 j (by omega)) (by rw [r2 582 (by omega)]; exact hf) (fun j a b => ?_) (by rw [r2 595 (by omega), r2 582 (by omega)]; exact hg.o) (by rw [r2 596 (by omega)]; exact hg.l) (by rw [r2 597 (by omega)]; exact hg.r)⟩
  rw [r2 582 (by omega)] at b
  exact r1 j a (by omega)
theorem sp_alter_ok (hw : sp_wt m) (hg : sp_wg m) {s i v : Int} (h0 : 0 ≤ s) (h1 : s < m 580) (hi : 0 ≤ i ∧ i < m (29 * s + 4)) (hv : 0 ≤ v ∧ v ≤ 99) : sp_wt (sp_up m (29 * s + (17 + i)) v) ∧ sp_wg (sp_up m (29 * s + (17 + i)) v) := by
  have hc := hw.c
  have hms := hw.many h0 h1
  have hhd : ∀ t j, 0 ≤ t → t < m 580 → 0 ≤ j → j < 17 → sp_up m (29 * s + (17 + i)) v (29 * t + j) = m (29 * t + j) := fun t j a b c d => sp_up_ne (by omega)
  have hh0 : ∀ t, 0 ≤ t → t < m 580 → sp_up m (29 * s + (17 + i)) v (29 * t) = m (29 * t) := fun t a b => sp_up_ne (by omega)
  have hhi : ∀ j, 580 ≤ j → sp_up m (29 * s + (17 + i)) v j = m j := fun j a => sp_up_ne (by omega)
  have hwt : sp_wt (sp_up m (29 * s + (17 + i)) v) := by
    have e580 := hhi 580 (by omega)
    have e581 := hhi 581 (by omega)
    refine ⟨by rw [e580]; exact hc, by rw [e581]; exact hw.cm, fun t a b => ?_, fun t t' a b c => ?_, fun t a b hb => ?_, fun t a b => ?_, fun t t' a b c d he => ?_⟩
    · rw [e580] at b
      rw [hh0 t a b, e581, hhd t 1 a b (by omega) (by omega), hhd t 3 a b (by omega) (by omega)]
      exact ⟨(hw.num a b).1, (hw.num a b).2, (hw.frm a b).1, (hw.frm a b).2, hw.bas a b⟩
    · rw [e580] at c
      rw [hh0 t a (by omega), hh0 t' (by omega) c]; exact hw.asc a b c
    · rw [e580] at b
      rw [hhd t 3 a b (by omega) (by omega)] at hb
      obtain ⟨x1, x2⟩ := hw.whole a b hb
      have hm := hw.many a b
      rw [hhd t 4 a b (by omega) (by omega), hhd t 1 a b (by omega) (by omega)]
      exact ⟨x1, fun j j0 j1 => by rw [hhd t _ a b (by omega) (by omega)]; exact x2 j j0 j1⟩
    · rw [e580] at b
      have hm := hw.many a b
      rw [hhd t 4 a b (by omega) (by omega), hhd t 1 a b (by omega) (by omega)]
      refine ⟨hm.1, hm.2, fun j j0 j1 => ?_⟩
      rw [hhd t _ a b (by omega) (by omega)]
      have he := hw.ent a b j0 j1
      by_cases e : 29 * t + (17 + j) = 29 * s + (17 + i)
      · rw [e, sp_up_eq]; exact ⟨he.1, he.2.1, hv.1, hv.2⟩
      · rw [sp_up_ne e]; exact he
    · rw [e580] at b d
      rw [hhd t 3 a b (by omega) (by omega), hh0 t' c d] at he
      rw [hhd t 1 a b (by omega) (by omega), hhd t' 1 c d (by omega) (by omega)]
      exact hw.fms a b c d he
  refine ⟨hwt, by rw [hhi 582 (by omega)]; exact hg.f, ?_, ?_, by rw [hhi 596 (by omega)]; exact hg.l, by rw [hhi 597 (by omega)]; exact hg.r⟩
  · have hf := hg.f
    rw [hhi 582 (by omega)]
    intro j a b
    show 0 ≤ sp_up m (29 * s + (17 + i)) v (583 + j) ∧ sp_up m (29 * s + (17 + i)) v (583 + j) ≤ 99
    rw [hhi _ (by omega)]; exact hg.v j a b
  · rw [hhi 595 (by omega), hhi 582 (by omega)]
    rcases hg.o with h | ⟨g1, g2, g3⟩
    · exact Or.inl h
    · obtain ⟨s0, s1, s2⟩ := sp_slot_in g2
      have e : sp_slot (sp_up m (29 * s + (17 + i)) v) (m 595) = sp_slot m (m 595) := by
        rw [← s2, ← hh0 _ s0 s1]
        rw [hwt.slot s0 (by rw [hhi 580 (by omega)]; exact s1), hh0 _ s0 s1, hw.slot s0 s1]
      refine Or.inr ⟨g1, by rw [e]; exact g2, ?_⟩
      rw [e, hhd _ 1 s0 s1 (by omega) (by omega)]; exact g3
theorem sp_rp_wg (hw : sp_wt m) (hg : sp_wg m) (h : sp_rp m m') : sp_wg m' := by
  have hf := hg.f
  have e : ∀ j, 580 ≤ j → j ≤ 597 → m' j = m j := h.1
  refine ⟨by rw [e 582 (by omega) (by omega)]; exact hf, ?_, ?_, by rw [e 596 (by omega) (by omega)]; exact hg.l, by rw [e 597 (by omega) (by omega)]; exact hg.r⟩
  · rw [e 582 (by omega) (by omega)]
    intro j a b
    show 0 ≤ m' (583 + j) ∧ m' (583 + j) ≤ 99
    rw [e _ (by omega) (by omega)]; exact hg.v j a b
  · rw [e 595 (by omega) (by omega), e 582 (by omega) (by omega)]
    rcases hg.o with h1 | ⟨g1, g2, g3⟩
    · exact Or.inl h1
    · obtain ⟨s0, s1, -⟩ := sp_slot_in g2
      refine Or.inr ⟨g1, by rw [h.slot]; exact g2, ?_⟩
      rw [h.slot, (h.2 _ s0 s1).2.1]; exact g3
theorem sp_keep_ok (hw : sp_wt m) (hg : sp_wg m) (hn : ¬ (m 580 = 20 ∨ m 581 = 99)) (h : sp_keep m m') : sp_wt m' ∧ sp_wg m' := by
  obtain ⟨k0, k1, k2, k3, k4, k5, k6, k7, k8, k9, k10, k11⟩ := h
  have hc := hw.c
  have hcm := hw.cm
  have hf := hg.f
  have hr : ∀ s j, 0 ≤ s → s < m 580 → 0 ≤ j → j < 29 → m' (29 * s + j) = m (29 * s + j) := fun s j a b c d => k0 _ (by omega) (by omega)
  have hr0 : ∀ s, 0 ≤ s → s < m 580 → m' (29 * s) = m (29 * s) := fun s a b => k0 _ (by omega) (by omega)
  -- the fresh row
  have hnew : (m' (29 * m 580 + 3) = -1 ∨ (0 ≤ m' (29 * m 580 + 3) ∧ m' (29 * m 580 + 3) < m 581)) ∧ (m' (29 * m 580 + 3) = -1 → m' (29 * m 580 + 4) = 6 + 2 * m 582 ∧ ∀ i, 0 ≤ i → i < m' (29 * m 580 + 4) → m' (29 * m 580 + (5 + i)) = i) ∧ (0 ≤ m' (29 * m 580 + 4) ∧ m' (29 * m 580 + 4) ≤ 12 ∧ ∀ i, 0 ≤ i → i < m' (29 * m 580 + 4) → 0 ≤ m' (29 * m 580 + (5 + i)) ∧ m' (29 * m 580 + (5 + i)) < 6 + 2 * m 582 ∧ 0 ≤ m' (29 * m 580 + (17 + i)) ∧ m' (29 * m 580 + (17 + i)) ≤ 99) ∧ ∀ t, 0 ≤ t → t < m 580 → m' (29 * m 580 + 3) = m (29 * t) → m (29 * t + 1) ≤ m 582 := by
    by_cases hnr : sp_near m
    · have hd := k10 hnr
      obtain ⟨o1, o2, o3⟩ := hg.o.resolve_left hnr.1
      obtain ⟨s0, s1, s2⟩ := sp_slot_in o2
      have hnm := hw.num s0 s1
      have hdn := sp_dn_in (sp_rz (sp_V m (m 595)) (m (29 * sp_slot m (m 595) + 1)) (m 582)) (sp_gv m) (6 + 2 * m 582).toNat
      rw [hd.1]
      refine ⟨Or.inr ⟨o1, by omega⟩, fun e => absurd e hnr.1, ⟨by rw [hd.2.1]; omega, by rw [hd.2.1]; omega, fun i a b => ?_⟩, fun t a b e => ?_⟩
      · obtain ⟨j, j0, j1, j2, j3, j4⟩ := sp_rowD_ent (by omega) hd a b
        rw [j3, j4]
        have := hg.v j j0 j1
        exact ⟨j0, j1, this.1, this.2⟩
      · have := hw.slot a b
        rw [← e] at this
        rw [← this]; exact o3
    · have hd := k11 hnr
      rw [hd.1, hd.2.1]
      refine ⟨Or.inl rfl, fun _ => ⟨rfl, fun i a b => (hd.2.2 i a b).1⟩, ⟨by omega, by omega, fun i a b => ?_⟩, fun t a b e => ?_⟩
      · obtain ⟨x1, x2⟩ := hd.2.2 i a b
        rw [x1, x2]
        have := hg.v i a b
        exact ⟨a, b, this.1, this.2⟩
      · have := hw.num a b; omega
  obtain ⟨n1, n2, n3, n4⟩ := hnew
  have hwt : sp_wt m' := by
    refine ⟨by omega, by omega, fun s a b => ?_, fun s t a b c => ?_, fun s a b hb => ?_, fun s a b => ?_, fun s t a b c d he => ?_⟩
    · rw [k1] at b
      by_cases e : s = m 580
      · subst e; rw [k7, k8, k2]; exact ⟨by omega, by omega, hf.1, hf.2, n1⟩
      · rw [hr0 s a (by omega), k2, hr s 1 a (by omega) (by omega) (by omega), hr s 3 a (by omega) (by omega) (by omega)]
        have := hw.num a (by omega : s < m 580)
        exact ⟨this.1, by omega, (hw.frm a (by omega)).1, (hw.frm a (by omega)).2, hw.bas a (by omega)⟩
    · rw [k1] at c
      rw [hr0 s a (by omega)]
      by_cases e : t = m 580
      · subst e; rw [k7]; exact (hw.num a (by omega)).2
      · rw [hr0 t (by omega) (by omega)]; exact hw.asc a b (by omega)
    · rw [k1] at b
      by_cases e : s = m 580
      · subst e; rw [k8]; exact n2 hb
      · have hs : s < m 580 := by omega
        rw [hr s 3 a hs (by omega) (by omega)] at hb
        obtain ⟨x1, x2⟩ := hw.whole a hs hb
        have hm := hw.many a hs
        rw [hr s 4 a hs (by omega) (by omega), hr s 1 a hs (by omega) (by omega)]
        exact ⟨x1, fun i i0 i1 => by rw [hr s _ a hs (by omega) (by omega)]; exact x2 i i0 i1⟩
    · rw [k1] at b
      by_cases e : s = m 580
      · subst e; rw [k8]; exact n3
      · have hs : s < m 580 := by omega
        have hm := hw.many a hs
        rw [hr s 4 a hs (by omega) (by omega), hr s 1 a hs (by omega) (by omega)]
        refine ⟨hm.1, hm.2, fun i i0 i1 => ?_⟩
        rw [hr s _ a hs (by omega) (by omega), hr s _ a hs (by omega) (by omega)]
        exact hw.ent a hs i0 i1
    · rw [k1] at b d
      by_cases e : s = m 580
      · subst e
        rw [k8]
        by_cases e2 : t = m 580
        · subst e2; rw [k8]; exact Int.le_refl _
        · rw [hr0 t c (by omega)] at he
          rw [hr t 1 c (by omega) (by omega) (by omega)]
          exact n4 t c (by omega) he
      · have hs : s < m 580 := by omega
        rw [hr s 3 a hs (by omega) (by omega)] at he
        rw [hr s 1 a hs (by omega) (by omega)]
        by_cases e2 : t = m 580
        · subst e2
          rw [k7] at he
          have h1 := hw.bas a hs
          have h2 := hw.num a hs
          omega
        · rw [hr0 t c (by omega)] at he
          rw [hr t 1 c (by omega) (by omega) (by omega)]
          exact hw.fms a hs c (by omega) he
  have e582 := k3 582 (by omega) (by omega)
  have hsl : sp_slot m' (m 581) = m 580 := by rw [← k7]; exact hwt.slot (by omega) (by omega)
  refine ⟨hwt, by rw [e582]; exact hf, ?_, ?_, by rw [k5]; exact hg.l, by rw [k6]; exact hg.r⟩
  · rw [e582]
    intro j a b
    show 0 ≤ m' (583 + j) ∧ m' (583 + j) ≤ 99
    rw [k3 _ (by omega) (by omega)]; exact hg.v j a b
  · rw [k4, e582, hsl, k8]
    exact Or.inr ⟨hcm.1, by omega, Int.le_refl _⟩
theorem sp_sh_ok {mm : Int → Int} {s c x : Int} (hw : sp_wt mm) (hg : sp_wg mm) (hc : mm 580 = c) (hs : 0 ≤ s ∧ s < c) (hx : mm (29 * s) = x) : sp_wt (sp_sh mm s c x) ∧ sp_wg (sp_sh mm s c x) := by
  have hcc := hw.c
  have g : ∀ j, 580 < j → j ≠ 595 → sp_sh mm s c x j = mm j := fun j a e => by
    unfold sp_sh; rw [if_neg e, if_neg (by omega), if_neg (by omega)]
  have g580 : sp_sh mm s c x 580 = c - 1 := by unfold sp_sh; rw [if_neg (by omega), if_pos rfl]
  have g595 : sp_sh mm s c x 595 = if mm 595 = x then -1 else mm 595 := by unfold sp_sh; rw [if_pos rfl]
  -- the row t comes from the row σ t
  have hσ : ∀ t, 0 ≤ t → t < c - 1 → ∃ t', 0 ≤ t' ∧ t' < c ∧ (∀ j, 0 ≤ j → j < 29 → sp_sh mm s c x (29 * t + j) = mm (29 * t' + j)) ∧ sp_sh mm s c x (29 * t) = mm (29 * t') ∧ t' = (if t < s then t else t + 1) := by
    intro t a b
    by_cases e : t < s
    · refine ⟨t, a, by omega, fun j j0 j1 => ?_, ?_, by rw [if_pos e]⟩
      · unfold sp_sh; rw [if_neg (by omega), if_neg (by omega), if_neg (by omega)]
      · unfold sp_sh; rw [if_neg (by omega), if_neg (by omega), if_neg (by omega)]
    · refine ⟨t + 1, by omega, by omega, fun j j0 j1 => ?_, ?_, by rw [if_neg e]⟩
      · unfold sp_sh; rw [if_neg (by omega), if_neg (by omega), if_pos (by omega)]; exact congrArg mm (by omega)
      · unfold sp_sh; rw [if_neg (by omega), if_neg (by omega), if_pos (by omega)]; exact congrArg mm (by omega)
  have hwt : sp_wt (sp_sh mm s c x) := by
    refine ⟨by omega, by rw [g 581 (by omega) (by omega)]; exact hw.cm, fun t a b => ?_, fun t u a b d => ?_, fun t a b hb => ?_, fun t a b => ?_, fun t u a b d e he => ?_⟩
    · rw [g580] at b
      obtain ⟨t', p0, p1, p2, p3, -⟩ := hσ t a b
      rw [p3, g 581 (by omega) (by omega), p2 1 (by omega) (by omega), p2 3 (by omega) (by omega)]
      have p1' : t' < mm 580 := by omega
      exact ⟨(hw.num p0 p1').1, (hw.num p0 p1').2, (hw.frm p0 p1').1, (hw.frm p0 p1').2, hw.bas p0 p1'⟩
    · rw [g580] at d
      obtain ⟨t', p0, p1, p2, p3, p4⟩ := hσ t a (by omega)
      obtain ⟨u', q0, q1, q2, q3, q4⟩ := hσ u (by omega) d
      rw [p3, q3]
      exact hw.asc p0 (by rw [p4, q4]; split <;> split <;> omega) (by omega)
    · rw [g580] at b
      obtain ⟨t', p0, p1, p2, p3, -⟩ := hσ t a b
      rw [p2 3 (by omega) (by omega)] at hb
      obtain ⟨x1, x2⟩ := hw.whole p0 (by omega) hb
      have hm := hw.many p0 (by omega : t' < mm 580)
      rw [p2 4 (by omega) (by omega), p2 1 (by omega) (by omega)]
      exact ⟨x1, fun i i0 i1 => by rw [p2 _ (by omega) (by omega)]; exact x2 i i0 i1⟩
    · rw [g580] at b
      obtain ⟨t', p0, p1, p2, p3, -⟩ := hσ t a b
      have hm := hw.many p0 (by omega : t' < mm 580)
      rw [p2 4 (by omega) (by omega), p2 1 (by omega) (by omega)]
      refine ⟨hm.1, hm.2, fun i i0 i1 => ?_⟩
      rw [p2 _ (by omega) (by omega), p2 _ (by omega) (by omega)]
      exact hw.ent p0 (by omega) i0 i1
    · rw [g580] at b e
      obtain ⟨t', p0, p1, p2, p3, -⟩ := hσ t a b
      obtain ⟨u', q0, q1, q2, q3, -⟩ := hσ u d e
      rw [p2 3 (by omega) (by omega), q3] at he
      rw [p2 1 (by omega) (by omega), q2 1 (by omega) (by omega)]
      exact hw.fms p0 (by omega) q0 (by omega) he
  have hf := hg.f
  refine ⟨hwt, by rw [g 582 (by omega) (by omega)]; exact hf, ?_, ?_, by rw [g 596 (by omega) (by omega)]; exact hg.l, by rw [g 597 (by omega) (by omega)]; exact hg.r⟩
  · rw [g 582 (by omega) (by omega)]
    intro j a b
    show 0 ≤ sp_sh mm s c x (583 + j) ∧ sp_sh mm s c x (583 + j) ≤ 99
    rw [g _ (by omega) (by omega)]; exact hg.v j a b
  · rw [g595, g 582 (by omega) (by omega)]
    by_cases e : mm 595 = x
    · rw [if_pos e]; exact Or.inl rfl
    · rw [if_neg e]
      rcases hg.o with h1 | ⟨g1, g2, g3⟩
      · exact Or.inl h1
      · obtain ⟨s0, s1, s2⟩ := sp_slot_in g2
        have hne : sp_slot mm (mm 595) ≠ s := fun h => by rw [h, hx] at s2; exact e s2.symm
        obtain ⟨t', p0, p1, p2, p3, p4⟩ := hσ (if sp_slot mm (mm 595) < s then sp_slot mm (mm 595) else sp_slot mm (mm 595) - 1) (by split <;> omega) (by split <;> omega)
        have ht' : t' = sp_slot mm (mm 595) := by
          by_cases hl : sp_slot mm (mm 595) < s
          · rw [if_pos hl, if_pos hl] at p4; exact p4
          · rw [if_neg hl, if_neg (by omega)] at p4; omega
        subst ht'
        rw [s2] at p3
        have := hwt.slot (s := if sp_slot mm (mm 595) < s then sp_slot mm (mm 595) else sp_slot mm (mm 595) - 1) (by split <;> omega) (by rw [g580]; split <;> omega)
        rw [p3] at this
        refine Or.inr ⟨g1, by rw [this]; split <;> omega, ?_⟩
        rw [this, p2 1 (by omega) (by omega)]; exact g3
theorem sp_drop_ok (hw : sp_wt m) (hg : sp_wg m) {x md : Int} (hs : sp_slot m x ≠ -1) : sp_wt (sp_drop m x md) ∧ sp_wg (sp_drop m x md) := by
  obtain ⟨s0, s1, s2⟩ := sp_slot_in hs
  have hc := hw.c
  have hrp : sp_rp m (if md = 1 then sp_mdi m x (m 580).toNat else m) := by
    split
    · exact (sp_mdi_rp hw _ (by omega)).1
    · exact sp_rp.rf
  unfold sp_drop
  exact sp_sh_ok (hrp.wt hw) (sp_rp_wg hw hg hrp) hrp.c ⟨s0, s1⟩ (by rw [(hrp.2 _ s0 s1).1]; exact s2)
theorem sp_pack_ok (hw : sp_wt m) (hg : sp_wg m) : sp_wt (sp_pack m) ∧ sp_wg (sp_pack m) := by
  have hc := hw.c
  have hrp := (sp_pki_rp hw (m 580).toNat (by omega)).1
  exact ⟨hrp.wt hw, sp_rp_wg hw hg hrp⟩
theorem sp_kP_past {past : Int → Int} {P : Int → Int → Int} {u : Int} (hu : 0 ≤ u ∧ u ≤ 6) (hP : ∀ i, 0 ≤ i → i < u → ∀ k, 0 ≤ k → k < 598 → P i k = past (598 * i + k)) : ∀ i, 0 ≤ i → i < sp_ku u → ∀ k, 0 ≤ k → k < 598 → sp_kP m P u i k = sp_kpast m past u (598 * i + k) := by
  intro i i0 i1 k k0 k1
  unfold sp_ku at i1
  unfold sp_kP sp_kpast
  by_cases h6 : u = 6
  · simp only [if_pos h6] at i1 ⊢
    by_cases h5 : i = 5
    · rw [if_pos h5, if_pos (by omega)]; exact congrArg m (by omega)
    · rw [if_neg h5, if_neg (by omega), if_pos ⟨h6, by omega, by omega⟩, hP (i + 1) (by omega) (by omega) k k0 k1]
      exact congrArg past (by omega)
  · simp only [if_neg h6] at i1 ⊢
    by_cases h5 : i = u
    · rw [if_pos h5, if_pos (by omega)]; exact congrArg m (by omega)
    · rw [if_neg h5, if_neg (by omega), if_neg (by omega), hP i i0 (by omega) k k0 k1]
theorem sp_ku_in {u : Int} (hu : 0 ≤ u ∧ u ≤ 6) : 0 ≤ sp_ku u ∧ sp_ku u ≤ 6 := by unfold sp_ku; split <;> omega
end SPINV
