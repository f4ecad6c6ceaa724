section SPFORK
variable {m : Int → Int}
theorem sp_ch_end (hw : sp_wt m) {n : Int} {i : Nat} (h : sp_ch m n i = -1) : ∀ t : Nat, sp_ch m n (i + t) = -1 := by
  intro t
  induction t with
  | zero => exact h
  | succ t ih =>
    show sp_bs m (sp_ch m n (i + t)) = -1
    rw [ih]; exact sp_bs_none hw
theorem sp_ch_dn (hw : sp_wt m) {n : Int} {i : Nat} : ∀ t : Nat, 1 ≤ t → sp_ch m n (i + t) = -1 ∨ (0 ≤ sp_ch m n (i + t) ∧ sp_ch m n (i + t) < sp_ch m n i) := by
  intro t
  induction t with
  | zero => intro h; omega
  | succ t ih =>
    intro _
    have hs : sp_ch m n (i + (t + 1)) = sp_bs m (sp_ch m n (i + t)) := rfl
    rw [hs]
    by_cases h0 : sp_bs m (sp_ch m n (i + t)) = -1
    · exact Or.inl h0
    · obtain ⟨-, b, c⟩ := sp_bs_lt hw h0
      by_cases ht : t = 0
      · subst ht; exact Or.inr ⟨b, c⟩
      · rcases ih (by omega) with h | ⟨h1, h2⟩
        · rw [h] at b c; omega
        · exact Or.inr ⟨b, by omega⟩
theorem sp_ch_in (hw : sp_wt m) {n : Int} (h : sv_in n) (i : Nat) : sv_in (sp_ch m n i) := by
  cases i with
  | zero => exact h
  | succ i =>
    have := sp_bs_cm hw (x := sp_ch m n i)
    show sv_in (sp_bs m (sp_ch m n i))
    unfold sv_in; omega
/-- the chain of k up to its link i has nothing of that of p -/
def sp_fa (m : Int → Int) (k p : Int) (i : Nat) : Prop := ∀ a : Nat, a < i → sp_ch m k a ≠ -1 ∧ ∀ b : Nat, sp_ch m p b ≠ sp_ch m k a
theorem sp_fa_up (hw : sp_wt m) {k p : Int} {i j : Nat} (h1 : sp_fa m k p i) (h2 : sp_fa m p k j) (hn : sp_ch m k i ≠ -1) (hp : sp_ch m p j ≠ -1) (hlt : sp_ch m p j < sp_ch m k i) : sp_fa m k p (i + 1) := by
  intro a ha
  by_cases e : a = i
  · subst e
    refine ⟨hn, fun b hb => ?_⟩
    by_cases e1 : b < j
    · exact (h2 b e1).2 a hb.symm
    · by_cases e2 : b = j
      · subst e2; omega
      · rcases sp_ch_dn hw (n := p) (i := j) (b - j) (by omega) with h | ⟨-, h⟩
        · rw [show j + (b - j) = b by omega] at h; rw [h] at hb; omega
        · rw [show j + (b - j) = b by omega] at h; omega
  · exact h1 a (by omega)
theorem sp_fa_fk (hw : sp_wt m) {k p : Int} (hk : 0 ≤ k) (hp : 0 ≤ p) {i j : Nat} (h1 : sp_fa m k p i) (h2 : sp_fa m p k j) (he : sp_ch m k i = sp_ch m p j ∨ sp_ch m k i = -1 ∨ sp_ch m p j = -1) : sp_fk m k p (if sp_ch m k i = sp_ch m p j then sp_ch m k i else -1) := by
  by_cases e : sp_ch m k i = -1
  · refine ⟨i, ?_, fun a ha => ⟨(h1 a ha).1, fun ⟨b, _, hb⟩ => (h1 a ha).2 b hb⟩, Or.inl ?_⟩
    · split
      · rfl
      · exact e.symm
    · split
      · exact e
      · rfl
  · by_cases e2 : sp_ch m k i = sp_ch m p j
    · rw [if_pos e2]
      refine ⟨i, rfl, fun a ha => ⟨(h1 a ha).1, fun ⟨b, _, hb⟩ => (h1 a ha).2 b hb⟩, Or.inr ⟨j, ?_, e2.symm⟩⟩
      obtain ⟨L, l1, l2, -⟩ := sp_lk_at hw hp
      rw [l1]
      by_cases hj : j < L
      · simpa using hj
      · have := sp_ch_end hw l2 (j - L)
        rw [show L + (j - L) = j by omega] at this
        rw [e2, this] at e; omega
    · rw [if_neg e2]
      have e3 : sp_ch m p j = -1 := by omega
      obtain ⟨L, l1, l2, l3⟩ := sp_lk_at hw hk
      refine ⟨L, l2.symm, fun a ha => ⟨l3 a ha, fun ⟨b, _, hb⟩ => ?_⟩, Or.inl rfl⟩
      by_cases hj : b < j
      · exact (h2 b hj).2 a hb.symm
      · have := sp_ch_end hw e3 (b - j)
        rw [show j + (b - j) = b by omega] at this
        rw [this] at hb
        exact l3 a ha hb.symm
theorem sp_fa_21 (hw : sp_wt m) {k p : Int} {i : Nat} (h : sp_fa m k p i) : i ≤ 21 := sp_ch_21 hw fun a ha => (h a ha).1
end SPFORK
set_option maxRecDepth 100000 in
set_option maxHeartbeats 4000000 in
theorem c_X4_fork {X : sv_X} {S : sv_S} {f : sv_F} {r : sv_R} {g : sv_G} {V q d fo rs fi se pa sc : Nat} {kp fd : Int → Nat} {m : Int → Int} (hve : sv_K4 S r V q d fi se pa sc) (hmo : sv_K1 S r q kp) (hmv : sv_V1 f q kp m) (hre : sv_K2 S r d fo rs fd) (hw : sp_wt m) (k p : Int) (hki : sv_in k) (hpi : sv_in p) : sv_C X 2 MX4_fork 0 0 [sv_r V, sv_i k, sv_i p] S f r g (fun rv' S' f' r' g' => ∃ a, rv' = some (sv_i a) ∧ S' = S ∧ f' = f ∧ r' = r ∧ g' = g ∧ ((sp_slot m k = -1 ∨ sp_slot m p = -1) ∧ a = -2 ∨ sp_slot m k ≠ -1 ∧ sp_slot m p ≠ -1 ∧ sp_fk m k p a)) := by
  refine sv_met (by decide) (by simp [lg_sl, sv_cv, va_rf, Value.category]) ?_
  refine sv_fr fun hin => ?_
  have hcc := hw.c
  have lpp : sp_slot m k ≠ -1 → sp_slot m p ≠ -1 → sv_T X (sv_rm 2 0 0) MX4_fork (sv_Zm X 0 0 (fun rv' S' f' r' g' => ∃ a, rv' = some (sv_i a) ∧ S' = S ∧ f' = f ∧ r' = r ∧ g' = g ∧ ((sp_slot m k = -1 ∨ sp_slot m p = -1) ∧ a = -2 ∨ sp_slot m k ≠ -1 ∧ sp_slot m p ≠ -1 ∧ sp_fk m k p a))) 0 0 27 [some (sv_r V), some (sv_i k), some (sv_i p), none, none, none] [] S (f) r g := by
    intro hsk hsp
    obtain ⟨ks0, ks1, ks2⟩ := sp_slot_in hsk
    obtain ⟨ps0, ps1, ps2⟩ := sp_slot_in hsp
    have k0 : 0 ≤ k := by have := hw.num ks0 ks1; omega
    have p0 : 0 ≤ p := by have := hw.num ps0 ps1; omega
    have lp : ∀ (kk : Nat) (i : Nat) (j : Nat), 43 - ((i : Int) + j) < (kk : Int) → (sp_fa m k p i) → (sp_fa m p k j) → sv_T X (sv_rm 2 0 0) MX4_fork (sv_Zm X 0 0 (fun rv' S' f' r' g' => ∃ a, rv' = some (sv_i a) ∧ S' = S ∧ f' = f ∧ r' = r ∧ g' = g ∧ ((sp_slot m k = -1 ∨ sp_slot m p = -1) ∧ a = -2 ∨ sp_slot m k ≠ -1 ∧ sp_slot m p ≠ -1 ∧ sp_fk m k p a))) 0 0 35 [some (sv_r V), some (sv_i k), some (sv_i p), some (sv_i (sp_ch m k i)), some (sv_i (sp_ch m p j)), some (sv_i ((i : Int) + j))] [] S (f) r g := by
      intro kk
      induction kk with
      | zero =>
        intro i j hkk h1 h2
        exact absurd hkk (by have i21 := sp_fa_21 hw h1; have j21 := sp_fa_21 hw h2; omega)
      | succ kk ih =>
        intro i j hkk h1 h2
        have ci := sp_ch_in hw hki i
        have cj := sp_ch_in hw hpi j
        have i21 := sp_fa_21 hw h1
        have j21 := sp_fa_21 hw h2
        refine sv_iload dX4_fork_35 rfl ?_
        refine sv_sipush dX4_fork_37 (by decide) ?_
        refine sv_icmp_ge (tgt := 95) dX4_fork_40 (by decide) (by omega) (by decide) (fun h_40 => ?_) (fun h_40 => ?_)
        · refine sv_iload_n (i := 3) dX4_fork_95 rfl rfl ?_
          refine sv_iload dX4_fork_96 rfl ?_
          refine sv_icmp_ne (tgt := 105) dX4_fork_98 (by decide) ci cj (fun h_98 => ?_) (fun h_98 => ?_)
          · refine sv_iconst dX4_fork_105 ?_
            refine sv_ireturn dX4_fork_106 rfl ?_
            first
            | (refine ⟨_, rfl, rfl, rfl, rfl, rfl, Or.inr ⟨hsk, hsp, ?_⟩⟩
               have := sp_fa_fk hw k0 p0 h1 h2 (by omega)
               rwa [if_pos (by assumption)] at this)
            | (refine ⟨_, rfl, rfl, rfl, rfl, rfl, Or.inr ⟨hsk, hsp, ?_⟩⟩
               have := sp_fa_fk hw k0 p0 h1 h2 (by omega)
               rwa [if_neg (by assumption)] at this)
          · refine sv_iload_n (i := 3) dX4_fork_101 rfl rfl ?_
            refine sv_goto (tgt := 106) dX4_fork_102 (by decide) ?_
            refine sv_ireturn dX4_fork_106 rfl ?_
            first
            | (refine ⟨_, rfl, rfl, rfl, rfl, rfl, Or.inr ⟨hsk, hsp, ?_⟩⟩
               have := sp_fa_fk hw k0 p0 h1 h2 (by omega)
               rwa [if_pos (by assumption)] at this)
            | (refine ⟨_, rfl, rfl, rfl, rfl, rfl, Or.inr ⟨hsk, hsp, ?_⟩⟩
               have := sp_fa_fk hw k0 p0 h1 h2 (by omega)
               rwa [if_neg (by assumption)] at this)
        · refine sv_iload_n (i := 3) dX4_fork_43 rfl rfl ?_
          refine sv_iload dX4_fork_44 rfl ?_
          refine sv_icmp_eq (tgt := 95) dX4_fork_46 (by decide) ci cj (fun h_46 => ?_) (fun h_46 => ?_)
          · refine sv_iload_n (i := 3) dX4_fork_95 rfl rfl ?_
            refine sv_iload dX4_fork_96 rfl ?_
            refine sv_icmp_ne (tgt := 105) dX4_fork_98 (by decide) ci cj (fun h_98 => ?_) (fun h_98 => ?_)
            · refine sv_iconst dX4_fork_105 ?_
              refine sv_ireturn dX4_fork_106 rfl ?_
              first
              | (refine ⟨_, rfl, rfl, rfl, rfl, rfl, Or.inr ⟨hsk, hsp, ?_⟩⟩
                 have := sp_fa_fk hw k0 p0 h1 h2 (by omega)
                 rwa [if_pos (by assumption)] at this)
              | (refine ⟨_, rfl, rfl, rfl, rfl, rfl, Or.inr ⟨hsk, hsp, ?_⟩⟩
                 have := sp_fa_fk hw k0 p0 h1 h2 (by omega)
                 rwa [if_neg (by assumption)] at this)
            · refine sv_iload_n (i := 3) dX4_fork_101 rfl rfl ?_
              refine sv_goto (tgt := 106) dX4_fork_102 (by decide) ?_
              refine sv_ireturn dX4_fork_106 rfl ?_
              first
              | (refine ⟨_, rfl, rfl, rfl, rfl, rfl, Or.inr ⟨hsk, hsp, ?_⟩⟩
                 have := sp_fa_fk hw k0 p0 h1 h2 (by omega)
                 rwa [if_pos (by assumption)] at this)
              | (refine ⟨_, rfl, rfl, rfl, rfl, rfl, Or.inr ⟨hsk, hsp, ?_⟩⟩
                 have := sp_fa_fk hw k0 p0 h1 h2 (by omega)
                 rwa [if_neg (by assumption)] at this)
          · refine sv_iload_n (i := 3) dX4_fork_49 rfl rfl ?_
            refine sv_iconst dX4_fork_50 ?_
            refine sv_icmp_eq (tgt := 95) dX4_fork_51 (by decide) ci (by decide) (fun h_51 => ?_) (fun h_51 => ?_)
            · refine sv_iload_n (i := 3) dX4_fork_95 rfl rfl ?_
              refine sv_iload dX4_fork_96 rfl ?_
              refine sv_icmp_ne (tgt := 105) dX4_fork_98 (by decide) ci cj (fun h_98 => ?_) (fun h_98 => ?_)
              · refine sv_iconst dX4_fork_105 ?_
                refine sv_ireturn dX4_fork_106 rfl ?_
                first
                | (refine ⟨_, rfl, rfl, rfl, rfl, rfl, Or.inr ⟨hsk, hsp, ?_⟩⟩
                   have := sp_fa_fk hw k0 p0 h1 h2 (by omega)
                   rwa [if_pos (by assumption)] at this)
                | (refine ⟨_, rfl, rfl, rfl, rfl, rfl, Or.inr ⟨hsk, hsp, ?_⟩⟩
                   have := sp_fa_fk hw k0 p0 h1 h2 (by omega)
                   rwa [if_neg (by assumption)] at this)
              · refine sv_iload_n (i := 3) dX4_fork_101 rfl rfl ?_
                refine sv_goto (tgt := 106) dX4_fork_102 (by decide) ?_
                refine sv_ireturn dX4_fork_106 rfl ?_
                first
                | (refine ⟨_, rfl, rfl, rfl, rfl, rfl, Or.inr ⟨hsk, hsp, ?_⟩⟩
                   have := sp_fa_fk hw k0 p0 h1 h2 (by omega)
                   rwa [if_pos (by assumption)] at this)
                | (refine ⟨_, rfl, rfl, rfl, rfl, rfl, Or.inr ⟨hsk, hsp, ?_⟩⟩
                   have := sp_fa_fk hw k0 p0 h1 h2 (by omega)
                   rwa [if_neg (by assumption)] at this)
            · refine sv_iload dX4_fork_54 rfl ?_
              refine sv_iconst dX4_fork_56 ?_
              refine sv_icmp_eq (tgt := 95) dX4_fork_57 (by decide) cj (by decide) (fun h_57 => ?_) (fun h_57 => ?_)
              · refine sv_iload_n (i := 3) dX4_fork_95 rfl rfl ?_
                refine sv_iload dX4_fork_96 rfl ?_
                refine sv_icmp_ne (tgt := 105) dX4_fork_98 (by decide) ci cj (fun h_98 => ?_) (fun h_98 => ?_)
                · refine sv_iconst dX4_fork_105 ?_
                  refine sv_ireturn dX4_fork_106 rfl ?_
                  first
                  | (refine ⟨_, rfl, rfl, rfl, rfl, rfl, Or.inr ⟨hsk, hsp, ?_⟩⟩
                     have := sp_fa_fk hw k0 p0 h1 h2 (by omega)
                     rwa [if_pos (by assumption)] at this)
                  | (refine ⟨_, rfl, rfl, rfl, rfl, rfl, Or.inr ⟨hsk, hsp, ?_⟩⟩
                     have := sp_fa_fk hw k0 p0 h1 h2 (by omega)
                     rwa [if_neg (by assumption)] at this)
                · refine sv_iload_n (i := 3) dX4_fork_101 rfl rfl ?_
                  refine sv_goto (tgt := 106) dX4_fork_102 (by decide) ?_
                  refine sv_ireturn dX4_fork_106 rfl ?_
                  first
                  | (refine ⟨_, rfl, rfl, rfl, rfl, rfl, Or.inr ⟨hsk, hsp, ?_⟩⟩
                     have := sp_fa_fk hw k0 p0 h1 h2 (by omega)
                     rwa [if_pos (by assumption)] at this)
                  | (refine ⟨_, rfl, rfl, rfl, rfl, rfl, Or.inr ⟨hsk, hsp, ?_⟩⟩
                     have := sp_fa_fk hw k0 p0 h1 h2 (by omega)
                     rwa [if_neg (by assumption)] at this)
              · refine sv_iload_n (i := 3) dX4_fork_60 rfl rfl ?_
                refine sv_iload dX4_fork_61 rfl ?_
                refine sv_icmp_le (tgt := 78) dX4_fork_63 (by decide) ci cj (fun h_63 => ?_) (fun h_63 => ?_)
                · refine sv_aload_n (i := 0) dX4_fork_78 rfl rfl ?_
                  refine sv_getR (kz := 0) flX4_10 dX4_fork_79 rfl rfl hve.lt hve.k hve.r0 ?_
                  refine sv_iload dX4_fork_82 rfl ?_
                  refine sv_vp0 (As := [_]) clX4_174 dX4_fork_84 ⟨_, rfl, rfl⟩ (by decide) rfl (Nat.le_of_ble_eq_true rfl) (by decide) (by decide) hmo.lt hmo.k (c_X1_baseOf hmo hmv hcc _ cj) ?_
                  refine sv_istore dX4_fork_87 (by decide) rfl ?_
                  refine sv_iinc dX4_fork_89 rfl (by decide) rfl ?_
                  refine sv_goto (tgt := 35) dX4_fork_92 (by decide) ?_
                  first
                  | exact sv_cast (ih (i + 1) j (by omega) (sp_fa_up hw h1 h2 (by assumption) (by assumption) (by omega)) h2) rfl rfl rfl (by simp [sp_ch, sv_ent]; omega) rfl rfl
                  | exact sv_cast (ih i (j + 1) (by omega) h1 (sp_fa_up hw h2 h1 (by assumption) (by assumption) (by omega))) rfl rfl rfl (by simp [sp_ch, sv_ent]; omega) rfl rfl
                · refine sv_aload_n (i := 0) dX4_fork_66 rfl rfl ?_
                  refine sv_getR (kz := 0) flX4_10 dX4_fork_67 rfl rfl hve.lt hve.k hve.r0 ?_
                  refine sv_iload_n (i := 3) dX4_fork_70 rfl rfl ?_
                  refine sv_vp0 (As := [_]) clX4_174 dX4_fork_71 ⟨_, rfl, rfl⟩ (by decide) rfl (Nat.le_of_ble_eq_true rfl) (by decide) (by decide) hmo.lt hmo.k (c_X1_baseOf hmo hmv hcc _ ci) ?_
                  refine sv_istore_n (i := 3) dX4_fork_74 rfl (by decide) rfl ?_
                  refine sv_goto (tgt := 89) dX4_fork_75 (by decide) ?_
                  refine sv_iinc dX4_fork_89 rfl (by decide) rfl ?_
                  refine sv_goto (tgt := 35) dX4_fork_92 (by decide) ?_
                  first
                  | exact sv_cast (ih (i + 1) j (by omega) (sp_fa_up hw h1 h2 (by assumption) (by assumption) (by omega)) h2) rfl rfl rfl (by simp [sp_ch, sv_ent]; omega) rfl rfl
                  | exact sv_cast (ih i (j + 1) (by omega) h1 (sp_fa_up hw h2 h1 (by assumption) (by assumption) (by omega))) rfl rfl rfl (by simp [sp_ch, sv_ent]; omega) rfl rfl
    refine sv_iload_n (i := 1) dX4_fork_27 rfl rfl ?_
    refine sv_istore_n (i := 3) dX4_fork_28 rfl (by decide) rfl ?_
    refine sv_iload_n (i := 2) dX4_fork_29 rfl rfl ?_
    refine sv_istore dX4_fork_30 (by decide) rfl ?_
    refine sv_iconst dX4_fork_32 ?_
    refine sv_istore dX4_fork_33 (by decide) rfl ?_
    exact sv_cast (lp 44 0 0 (by omega) (fun a ha => by omega) (fun a ha => by omega)) rfl rfl rfl rfl rfl rfl
  refine sv_aload_n (i := 0) dX4_fork_0 rfl rfl ?_
  refine sv_getR (kz := 0) flX4_10 dX4_fork_1 rfl rfl hve.lt hve.k hve.r0 ?_
  refine sv_iload_n (i := 1) dX4_fork_4 rfl rfl ?_
  refine sv_vp0 (As := [_]) clX4_124 dX4_fork_5 ⟨_, rfl, rfl⟩ (by decide) rfl (Nat.le_of_ble_eq_true rfl) (by decide) (by decide) hmo.lt hmo.k (c_X1_placeOf hmo hmv hcc _ hki) ?_
  have hst := sp_slot_spec m k
  refine sv_iconst dX4_fork_8 ?_
  refine sv_icmp_eq (tgt := 24) dX4_fork_9 (by decide) (by first | omega | exact hin _ _ | decide | (simp [sv_u, sv_row]; omega) | (simp [sv_u, sv_row]; exact hin _ _) | exact hin1 _ _ | (simp [sv_u, sv_row]; exact hin1 _ _)) (by first | omega | exact hin _ _ | decide | (simp [sv_u, sv_row]; omega) | (simp [sv_u, sv_row]; exact hin _ _) | exact hin1 _ _ | (simp [sv_u, sv_row]; exact hin1 _ _)) (fun h_9 => ?_) (fun h_9 => ?_)
  · refine sv_bipush dX4_fork_24 (by decide) ?_
    refine sv_ireturn dX4_fork_26 rfl ?_
    exact ⟨_, rfl, rfl, rfl, rfl, rfl, Or.inl ⟨by first | exact Or.inl (by assumption) | exact Or.inr (by assumption), rfl⟩⟩
  · refine sv_aload_n (i := 0) dX4_fork_12 rfl rfl ?_
    refine sv_getR (kz := 0) flX4_10 dX4_fork_13 rfl rfl hve.lt hve.k hve.r0 ?_
    refine sv_iload_n (i := 2) dX4_fork_16 rfl rfl ?_
    refine sv_vp0 (As := [_]) clX4_124 dX4_fork_17 ⟨_, rfl, rfl⟩ (by decide) rfl (Nat.le_of_ble_eq_true rfl) (by decide) (by decide) hmo.lt hmo.k (c_X1_placeOf hmo hmv hcc _ hpi) ?_
    have hst2 := sp_slot_spec m p
    refine sv_iconst dX4_fork_20 ?_
    refine sv_icmp_ne (tgt := 27) dX4_fork_21 (by decide) (by first | omega | exact hin _ _ | decide | (simp [sv_u, sv_row]; omega) | (simp [sv_u, sv_row]; exact hin _ _) | exact hin1 _ _ | (simp [sv_u, sv_row]; exact hin1 _ _)) (by first | omega | exact hin _ _ | decide | (simp [sv_u, sv_row]; omega) | (simp [sv_u, sv_row]; exact hin _ _) | exact hin1 _ _ | (simp [sv_u, sv_row]; exact hin1 _ _)) (fun h_21 => ?_) (fun h_21 => ?_)
    · exact lpp (by assumption) (by assumption)
    · refine sv_bipush dX4_fork_24 (by decide) ?_
      refine sv_ireturn dX4_fork_26 rfl ?_
      exact ⟨_, rfl, rfl, rfl, rfl, rfl, Or.inl ⟨by first | exact Or.inl (by assumption) | exact Or.inr (by assumption), rfl⟩⟩
