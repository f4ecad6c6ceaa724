section SPFORK
variable {m : Int → Int}
theorem sp_ch_end (hw : sp_wt m) {n : Int} {i : Nat} (h : sp_ch m n i = -1) : ∀ t : Nat, sp_ch m n (i + t) = -1 := by
  intro t
  induction t with
  | zero => exact h
  | succ t ih =>
    show sp_bs m (sp_ch m n (i + t)) = -1
    rw [ih]; exact sp_bs_none hw
theorem sp_ch_dn (hw : sp_wt m) {n : Int} {i : Nat} : ∀ t : Nat, 1 ≤ t → sp_ch m n (i + t) = -1 ∨ (0 ≤ sp_ch m n (i + t) ∧ sp_ch m n (i + t) < sp_ch m n i) := by
  intro t
  induction t with
  | zero => intro h; omega
  | succ t ih =>
    intro _
    have hs : sp_ch m n (i + (t + 1)) = sp_bs m (sp_ch m n (i + t)) := rfl
    rw [hs]
    by_cases h0 : sp_bs m (sp_ch m n (i + t)) = -1
    · exact Or.inl h0
    · obtain ⟨-, b, c⟩ := sp_bs_lt hw h0
      by_cases ht : t = 0
      · subst ht; exact Or.inr ⟨b, c⟩
      · rcases ih (by omega) with h | ⟨h1, h2⟩
        · rw [h] at b c; omega
        · exact Or.inr ⟨b, by omega⟩
theorem sp_ch_in (hw : sp_wt m) {n : Int} (h : sv_in n) (i : Nat) : sv_in (sp_ch m n i) := by
  cases i with
  | zero => exact h
  | succ i =>
    have := sp_bs_cm hw (x := sp_ch m n i)
    show sv_in (sp_bs m (sp_ch m n i))
    unfold sv_in; omega
/-- the chain of k up to its link i has nothing of that of p -/
def sp_fa (m : Int → Int) (k p : Int) (i : Nat) : Prop := ∀ a : Nat, a < i → sp_ch m k a ≠ -1 ∧ ∀ b : Nat, sp_ch m p b ≠ sp_ch m k a
theorem sp_fa_up (hw : sp_wt m) {k p : Int} {i j : Nat} (h1 : sp_fa m k p i) (h2 : sp_fa m p k j) (hn : sp_ch m k i ≠ -1) (hp : sp_ch m p j ≠ -1) (hlt : sp_ch m p j < sp_ch m k i) : sp_fa m k p (i + 1) := by
  intro a ha
  by_cases e : a = i
  · subst e
    refine ⟨hn, fun b hb => ?_⟩
    by_cases e1 : b < j
    · exact (h2 b e1).2 a hb.symm
    · by_cases e2 : b = j
      · subst e2; omega
      · rcases sp_ch_dn hw (n := p) (i := j) (b - j) (by omega) with h | ⟨-, h⟩
        · rw [show j + (b - j) = b by omega] at h; rw [h] at hb; omega
        · rw [show j + (b - j) = b by omega] at h; omega
  · exact h1 a (by omega)
theorem sp_fa_fk (hw : sp_wt m) {k p : Int} (hk : 0 ≤ k) (hp : 0 ≤ p) {i j : Nat} (h1 : sp_fa m k p i) (h2 : sp_fa m p k j) (he : sp_ch m k i = sp_ch m p j ∨ sp_ch m k i = -1 ∨ sp_ch m p j = -1) : sp_fk m k p (if sp_ch m k i = sp_ch m p j then sp_ch m k i else -1) := by
  by_cases e : sp_ch m k i = -1
  · refine ⟨i, ?_, fun a ha => ⟨(h1 a ha).1, fun ⟨b, _, hb⟩ => (h1 a ha).2 b hb⟩, Or.inl ?_⟩
    · split
      · rfl
      · exact e.symm
    · split
      · exact e
      · rfl
  · by_cases e2 : sp_ch m k i = sp_ch m p j
    · rw [if_pos e2]
      refine ⟨i, rfl, fun a ha => ⟨(h1 a ha).1, fun ⟨b, _, hb⟩ => (h1 a ha).2 b hb⟩, Or.inr ⟨j, ?_, e2.symm⟩⟩
      obtain ⟨L, l1, l2, -⟩ := sp_lk_at hw hp
      rw [l1]
      by_cases hj : j < L
      · simpa using hj
      · have := sp_ch_end hw l2 (j - L)
        rw [show L + (j - L) = j by omega] at this
        rw [e2, this] at e; omega
    · rw [if_neg e2]
      have e3 : sp_ch m p j = -1 := by omega
      obtain ⟨L, l1, l2, l3⟩ := sp_lk_at hw hk
      refine ⟨L, l2.symm, fun a ha => ⟨l3 a ha, fun ⟨b, _, hb⟩ => ?_⟩, Or.inl rfl⟩
      by_cases hj : b < j
      · exact (h2 b hj).2 a hb.symm
      · have := sp_ch_end hw e3 (b - j)
        rw [show j + (b - j) = b by omega] at this
        rw [this] at hb
        exact l3 a ha hb.symm
theorem sp_fa_21 (hw : sp_wt m) {k p : Int} {i : Nat} (h : sp_fa m k p i) : i ≤ 21 := sp_ch_21 hw fun a ha => (h a ha).1
end SPFORK
