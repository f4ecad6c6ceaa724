section SPCHAIN
variable {m : Int → Int}
theorem sp_bs_lt (hw : sp_wt m) {x : Int} (h : sp_bs m x ≠ -1) : sp_slot m x ≠ -1 ∧ 0 ≤ sp_bs m x ∧ sp_bs m x < x := by
  unfold sp_bs at h ⊢
  by_cases hs : sp_slot m x = -1
  · rw [if_pos hs] at h; omega
  · rw [if_neg hs] at h ⊢
    obtain ⟨s0, s1, s2⟩ := sp_slot_in hs
    have := hw.bas s0 s1
    omega
theorem sp_slot_mono (hw : sp_wt m) {x y : Int} (hx : sp_slot m x ≠ -1) (hy : sp_slot m y ≠ -1) (h : x < y) : sp_slot m x < sp_slot m y := by
  obtain ⟨a0, a1, a2⟩ := sp_slot_in hx
  obtain ⟨b0, b1, b2⟩ := sp_slot_in hy
  by_cases e : sp_slot m x < sp_slot m y
  · exact e
  · exfalso
    by_cases e2 : sp_slot m x = sp_slot m y
    · rw [e2] at a2; omega
    · have := hw.asc b0 (by omega : sp_slot m y < sp_slot m x) a1
      omega
theorem sp_ch_len (hw : sp_wt m) {n : Int} : ∀ k : Nat, (∀ j : Nat, j ≤ k + 1 → sp_ch m n j ≠ -1) → sp_slot m (sp_ch m n k) ≠ -1 ∧ (k : Int) + sp_slot m (sp_ch m n k) ≤ 19 := by
  intro k
  induction k with
  | zero =>
    intro h
    have h1 := h 1 (by omega)
    obtain ⟨a, -, -⟩ := sp_bs_lt hw (x := n) h1
    obtain ⟨s0, s1, -⟩ := sp_slot_in a
    have := hw.c
    exact ⟨a, by show _ + sp_slot m n ≤ 19; omega⟩
  | succ k ih =>
    intro h
    obtain ⟨a, b⟩ := ih fun j hj => h j (by omega)
    have h1 := h (k + 2) (by omega)
    obtain ⟨c, -, -⟩ := sp_bs_lt hw (x := sp_ch m n (k + 1)) h1
    have h2 := h (k + 1) (by omega)
    obtain ⟨-, d1, d2⟩ := sp_bs_lt hw (x := sp_ch m n k) h2
    have := sp_slot_mono hw c a d2
    exact ⟨c, by omega⟩
theorem sp_ch_21 (hw : sp_wt m) {n : Int} {L : Nat} (h : ∀ k : Nat, k < L → sp_ch m n k ≠ -1) : L ≤ 21 := by
  by_cases e : L ≤ 1
  · omega
  · obtain ⟨a, b⟩ := sp_ch_len hw (n := n) (L - 2) fun j hj => h j (by omega)
    obtain ⟨s0, -, -⟩ := sp_slot_in a
    omega
theorem sp_bs_cm (hw : sp_wt m) {x : Int} : sp_bs m x = -1 ∨ (0 ≤ sp_bs m x ∧ sp_bs m x ≤ 97) := by
  by_cases h : sp_bs m x = -1
  · exact Or.inl h
  · obtain ⟨a, b, c⟩ := sp_bs_lt hw h
    obtain ⟨s0, s1, s2⟩ := sp_slot_in a
    have := hw.num s0 s1
    have := hw.cm
    exact Or.inr ⟨b, by omega⟩
end SPCHAIN
