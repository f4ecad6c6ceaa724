set_option maxRecDepth 100000 in
set_option maxHeartbeats 4000000 in
theorem c_X3_failAt {X : sv_X} {S : sv_S} {f : sv_F} {r : sv_R} {g : sv_G} {sc tx vs : Nat} (hsc : sv_K3 S r sc tx vs) (a : Int) (ha : sv_in a) : sv_C X 0 MX3_failAt 0 0 [sv_r sc, sv_i a] S f r g (sv_qv (fun f' => f' = sv_u f sc 5 (if f sc 5 = -1 then a else f sc 5)) S r g) := by
  refine sv_met (by decide) (by simp [lg_sl, sv_cv, va_rf, Value.category]) ?_
  refine sv_fr fun hin => ?_
  refine sv_aload_n (i := 0) dX3_failAt_0 rfl rfl ?_
  refine sv_getI (kz := 5) flX3_28 dX3_failAt_1 rfl rfl hsc.lt hsc.k ?_
  refine sv_iconst dX3_failAt_4 ?_
  refine sv_icmp_ne (tgt := 13) dX3_failAt_5 (by decide) (by first | omega | exact hin _ _ | decide | (simp [sv_u, sv_row]; omega) | (simp [sv_u, sv_row]; exact hin _ _) | exact hin1 _ _ | (simp [sv_u, sv_row]; exact hin1 _ _)) (by first | omega | exact hin _ _ | decide | (simp [sv_u, sv_row]; omega) | (simp [sv_u, sv_row]; exact hin _ _) | exact hin1 _ _ | (simp [sv_u, sv_row]; exact hin1 _ _)) (fun h_5 => ?_) (fun h_5 => ?_)
  · refine sv_return dX3_failAt_13 rfl ?_
    exact ⟨rfl, rfl, rfl, rfl, by first | rw [if_pos (by assumption)] | (rw [if_neg (by assumption)]; exact sv_u_self rfl)⟩
  · refine sv_aload_n (i := 0) dX3_failAt_8 rfl rfl ?_
    refine sv_iload_n (i := 1) dX3_failAt_9 rfl rfl ?_
    refine sv_putI (kz := 5) flX3_28 dX3_failAt_10 (Or.inl rfl) rfl rfl hsc.lt hsc.k (by first | omega | exact hin _ _ | decide | (simp [sv_u, sv_row]; omega) | (simp [sv_u, sv_row]; exact hin _ _) | exact hin1 _ _ | (simp [sv_u, sv_row]; exact hin1 _ _)) ?_
    refine sv_return dX3_failAt_13 rfl ?_
    exact ⟨rfl, rfl, rfl, rfl, by first | rw [if_pos (by assumption)] | (rw [if_neg (by assumption)]; exact sv_u_self rfl)⟩
set_option maxRecDepth 100000 in
set_option maxHeartbeats 4000000 in
theorem c_X3_isDigitNext {X : sv_X} {S : sv_S} {f : sv_F} {r : sv_R} {g : sv_G} {sc tx vs : Nat} (hsc : sv_K3 S r sc tx vs) (h11 : 0 ≤ f sc 4 ∧ f sc 4 ≤ f sc 1) (h10 : f sc 1 ≤ 80) : sv_C X 0 MX3_isDigitNext 0 0 [sv_r sc] S f r g (sv_qp (some (sv_i (if sp_dg (f tx) (f sc 1) (f sc 4) = true then 1 else 0))) S f r g) := by
  refine sv_met (by decide) (by simp [lg_sl, sv_cv, va_rf, Value.category]) ?_
  refine sv_fr fun hin => ?_
  have hnx : (f sc 4 < f sc 1 ∧ sp_nx (f tx) (f sc 1) (f sc 4) = f tx (f sc 4)) ∨ (f sc 1 ≤ f sc 4 ∧ sp_nx (f tx) (f sc 1) (f sc 4) = -1) := by
    unfold sp_nx
    by_cases h : f sc 4 < f sc 1
    · rw [if_pos h]; exact Or.inl ⟨h, rfl⟩
    · rw [if_neg h]; exact Or.inr ⟨by omega, rfl⟩
  refine sv_aload_n (i := 0) dX3_isDigitNext_0 rfl rfl ?_
  refine sv_getI (kz := 4) flX3_25 dX3_isDigitNext_1 rfl rfl hsc.lt hsc.k ?_
  refine sv_aload_n (i := 0) dX3_isDigitNext_4 rfl rfl ?_
  refine sv_getI (kz := 1) flX3_15 dX3_isDigitNext_5 rfl rfl hsc.lt hsc.k ?_
  refine sv_icmp_ge (tgt := 43) dX3_isDigitNext_8 (by decide) (by first | omega | exact hin _ _ | decide | (simp [sv_u, sv_row]; omega) | (simp [sv_u, sv_row]; exact hin _ _) | exact hin1 _ _ | (simp [sv_u, sv_row]; exact hin1 _ _)) (by first | omega | exact hin _ _ | decide | (simp [sv_u, sv_row]; omega) | (simp [sv_u, sv_row]; exact hin _ _) | exact hin1 _ _ | (simp [sv_u, sv_row]; exact hin1 _ _)) (fun h_8 => ?_) (fun h_8 => ?_)
  · refine sv_iconst dX3_isDigitNext_43 ?_
    refine sv_zreturn dX3_isDigitNext_44 rfl (by first | exact sv_b01 _ | decide) ?_
    exact ⟨by first | (rw [if_pos (by rw [sp_dg_iff]; omega)]) | (rw [if_neg (by rw [sp_dg_iff]; omega)]), rfl, rfl, rfl, rfl⟩
  · refine sv_aload_n (i := 0) dX3_isDigitNext_11 rfl rfl ?_
    refine sv_getR (kz := 0) flX3_9 dX3_isDigitNext_12 rfl rfl hsc.lt hsc.k hsc.r0 ?_
    refine sv_aload_n (i := 0) dX3_isDigitNext_15 rfl rfl ?_
    refine sv_getI (kz := 4) flX3_25 dX3_isDigitNext_16 rfl rfl hsc.lt hsc.k ?_
    refine sv_iald dX3_isDigitNext_19 hsc.l0 hsc.s0 (by omega) ?_
    refine sv_bipush dX3_isDigitNext_20 (by decide) ?_
    refine sv_icmp_lt (tgt := 43) dX3_isDigitNext_22 (by decide) (by first | omega | exact hin _ _ | decide | (simp [sv_u, sv_row]; omega) | (simp [sv_u, sv_row]; exact hin _ _) | exact hin1 _ _ | (simp [sv_u, sv_row]; exact hin1 _ _)) (by first | omega | exact hin _ _ | decide | (simp [sv_u, sv_row]; omega) | (simp [sv_u, sv_row]; exact hin _ _) | exact hin1 _ _ | (simp [sv_u, sv_row]; exact hin1 _ _)) (fun h_22 => ?_) (fun h_22 => ?_)
    · refine sv_iconst dX3_isDigitNext_43 ?_
      refine sv_zreturn dX3_isDigitNext_44 rfl (by first | exact sv_b01 _ | decide) ?_
      exact ⟨by first | (rw [if_pos (by rw [sp_dg_iff]; omega)]) | (rw [if_neg (by rw [sp_dg_iff]; omega)]), rfl, rfl, rfl, rfl⟩
    · refine sv_aload_n (i := 0) dX3_isDigitNext_25 rfl rfl ?_
      refine sv_getR (kz := 0) flX3_9 dX3_isDigitNext_26 rfl rfl hsc.lt hsc.k hsc.r0 ?_
      refine sv_aload_n (i := 0) dX3_isDigitNext_29 rfl rfl ?_
      refine sv_getI (kz := 4) flX3_25 dX3_isDigitNext_30 rfl rfl hsc.lt hsc.k ?_
      refine sv_iald dX3_isDigitNext_33 hsc.l0 hsc.s0 (by omega) ?_
      refine sv_bipush dX3_isDigitNext_34 (by decide) ?_
      refine sv_icmp_gt (tgt := 43) dX3_isDigitNext_36 (by decide) (by first | omega | exact hin _ _ | decide | (simp [sv_u, sv_row]; omega) | (simp [sv_u, sv_row]; exact hin _ _) | exact hin1 _ _ | (simp [sv_u, sv_row]; exact hin1 _ _)) (by first | omega | exact hin _ _ | decide | (simp [sv_u, sv_row]; omega) | (simp [sv_u, sv_row]; exact hin _ _) | exact hin1 _ _ | (simp [sv_u, sv_row]; exact hin1 _ _)) (fun h_36 => ?_) (fun h_36 => ?_)
      · refine sv_iconst dX3_isDigitNext_43 ?_
        refine sv_zreturn dX3_isDigitNext_44 rfl (by first | exact sv_b01 _ | decide) ?_
        exact ⟨by first | (rw [if_pos (by rw [sp_dg_iff]; omega)]) | (rw [if_neg (by rw [sp_dg_iff]; omega)]), rfl, rfl, rfl, rfl⟩
      · refine sv_iconst dX3_isDigitNext_39 ?_
        refine sv_goto (tgt := 44) dX3_isDigitNext_40 (by decide) ?_
        refine sv_zreturn dX3_isDigitNext_44 rfl (by first | exact sv_b01 _ | decide) ?_
        exact ⟨by first | (rw [if_pos (by rw [sp_dg_iff]; omega)]) | (rw [if_neg (by rw [sp_dg_iff]; omega)]), rfl, rfl, rfl, rfl⟩
set_option maxRecDepth 100000 in
set_option maxHeartbeats 4000000 in
theorem c_X3_isLetterNext {X : sv_X} {S : sv_S} {f : sv_F} {r : sv_R} {g : sv_G} {sc tx vs : Nat} (hsc : sv_K3 S r sc tx vs) (h11 : 0 ≤ f sc 4 ∧ f sc 4 ≤ f sc 1) (h10 : f sc 1 ≤ 80) : sv_C X 0 MX3_isLetterNext 0 0 [sv_r sc] S f r g (sv_qp (some (sv_i (if 97 ≤ sp_nx (f tx) (f sc 1) (f sc 4) ∧ sp_nx (f tx) (f sc 1) (f sc 4) ≤ 122 then 1 else 0))) S f r g) := by
  refine sv_met (by decide) (by simp [lg_sl, sv_cv, va_rf, Value.category]) ?_
  refine sv_fr fun hin => ?_
  have hnx : (f sc 4 < f sc 1 ∧ sp_nx (f tx) (f sc 1) (f sc 4) = f tx (f sc 4)) ∨ (f sc 1 ≤ f sc 4 ∧ sp_nx (f tx) (f sc 1) (f sc 4) = -1) := by
    unfold sp_nx
    by_cases h : f sc 4 < f sc 1
    · rw [if_pos h]; exact Or.inl ⟨h, rfl⟩
    · rw [if_neg h]; exact Or.inr ⟨by omega, rfl⟩
  refine sv_aload_n (i := 0) dX3_isLetterNext_0 rfl rfl ?_
  refine sv_getI (kz := 4) flX3_25 dX3_isLetterNext_1 rfl rfl hsc.lt hsc.k ?_
  refine sv_aload_n (i := 0) dX3_isLetterNext_4 rfl rfl ?_
  refine sv_getI (kz := 1) flX3_15 dX3_isLetterNext_5 rfl rfl hsc.lt hsc.k ?_
  refine sv_icmp_ge (tgt := 43) dX3_isLetterNext_8 (by decide) (by first | omega | exact hin _ _ | decide | (simp [sv_u, sv_row]; omega) | (simp [sv_u, sv_row]; exact hin _ _) | exact hin1 _ _ | (simp [sv_u, sv_row]; exact hin1 _ _)) (by first | omega | exact hin _ _ | decide | (simp [sv_u, sv_row]; omega) | (simp [sv_u, sv_row]; exact hin _ _) | exact hin1 _ _ | (simp [sv_u, sv_row]; exact hin1 _ _)) (fun h_8 => ?_) (fun h_8 => ?_)
  · refine sv_iconst dX3_isLetterNext_43 ?_
    refine sv_zreturn dX3_isLetterNext_44 rfl (by first | exact sv_b01 _ | decide) ?_
    exact ⟨by first | (rw [if_pos (by omega)]) | (rw [if_neg (by omega)]), rfl, rfl, rfl, rfl⟩
  · refine sv_aload_n (i := 0) dX3_isLetterNext_11 rfl rfl ?_
    refine sv_getR (kz := 0) flX3_9 dX3_isLetterNext_12 rfl rfl hsc.lt hsc.k hsc.r0 ?_
    refine sv_aload_n (i := 0) dX3_isLetterNext_15 rfl rfl ?_
    refine sv_getI (kz := 4) flX3_25 dX3_isLetterNext_16 rfl rfl hsc.lt hsc.k ?_
    refine sv_iald dX3_isLetterNext_19 hsc.l0 hsc.s0 (by omega) ?_
    refine sv_bipush dX3_isLetterNext_20 (by decide) ?_
    refine sv_icmp_lt (tgt := 43) dX3_isLetterNext_22 (by decide) (by first | omega | exact hin _ _ | decide | (simp [sv_u, sv_row]; omega) | (simp [sv_u, sv_row]; exact hin _ _) | exact hin1 _ _ | (simp [sv_u, sv_row]; exact hin1 _ _)) (by first | omega | exact hin _ _ | decide | (simp [sv_u, sv_row]; omega) | (simp [sv_u, sv_row]; exact hin _ _) | exact hin1 _ _ | (simp [sv_u, sv_row]; exact hin1 _ _)) (fun h_22 => ?_) (fun h_22 => ?_)
    · refine sv_iconst dX3_isLetterNext_43 ?_
      refine sv_zreturn dX3_isLetterNext_44 rfl (by first | exact sv_b01 _ | decide) ?_
      exact ⟨by first | (rw [if_pos (by omega)]) | (rw [if_neg (by omega)]), rfl, rfl, rfl, rfl⟩
    · refine sv_aload_n (i := 0) dX3_isLetterNext_25 rfl rfl ?_
      refine sv_getR (kz := 0) flX3_9 dX3_isLetterNext_26 rfl rfl hsc.lt hsc.k hsc.r0 ?_
      refine sv_aload_n (i := 0) dX3_isLetterNext_29 rfl rfl ?_
      refine sv_getI (kz := 4) flX3_25 dX3_isLetterNext_30 rfl rfl hsc.lt hsc.k ?_
      refine sv_iald dX3_isLetterNext_33 hsc.l0 hsc.s0 (by omega) ?_
      refine sv_bipush dX3_isLetterNext_34 (by decide) ?_
      refine sv_icmp_gt (tgt := 43) dX3_isLetterNext_36 (by decide) (by first | omega | exact hin _ _ | decide | (simp [sv_u, sv_row]; omega) | (simp [sv_u, sv_row]; exact hin _ _) | exact hin1 _ _ | (simp [sv_u, sv_row]; exact hin1 _ _)) (by first | omega | exact hin _ _ | decide | (simp [sv_u, sv_row]; omega) | (simp [sv_u, sv_row]; exact hin _ _) | exact hin1 _ _ | (simp [sv_u, sv_row]; exact hin1 _ _)) (fun h_36 => ?_) (fun h_36 => ?_)
      · refine sv_iconst dX3_isLetterNext_43 ?_
        refine sv_zreturn dX3_isLetterNext_44 rfl (by first | exact sv_b01 _ | decide) ?_
        exact ⟨by first | (rw [if_pos (by omega)]) | (rw [if_neg (by omega)]), rfl, rfl, rfl, rfl⟩
      · refine sv_iconst dX3_isLetterNext_39 ?_
        refine sv_goto (tgt := 44) dX3_isLetterNext_40 (by decide) ?_
        refine sv_zreturn dX3_isLetterNext_44 rfl (by first | exact sv_b01 _ | decide) ?_
        exact ⟨by first | (rw [if_pos (by omega)]) | (rw [if_neg (by omega)]), rfl, rfl, rfl, rfl⟩
set_option maxRecDepth 100000 in
set_option maxHeartbeats 4000000 in
theorem c_X3_isNext {X : sv_X} {S : sv_S} {f : sv_F} {r : sv_R} {g : sv_G} {sc tx vs : Nat} (hsc : sv_K3 S r sc tx vs) (h11 : 0 ≤ f sc 4 ∧ f sc 4 ≤ f sc 1) (h10 : f sc 1 ≤ 80) (a : Int) (ha : 0 ≤ a ∧ a ≤ 127) : sv_C X 0 MX3_isNext 0 0 [sv_r sc, sv_i a] S f r g (sv_qp (some (sv_i (if sp_nx (f tx) (f sc 1) (f sc 4) = a then 1 else 0))) S f r g) := by
  refine sv_met (by decide) (by simp [lg_sl, sv_cv, va_rf, Value.category]) ?_
  refine sv_fr fun hin => ?_
  have hnx : (f sc 4 < f sc 1 ∧ sp_nx (f tx) (f sc 1) (f sc 4) = f tx (f sc 4)) ∨ (f sc 1 ≤ f sc 4 ∧ sp_nx (f tx) (f sc 1) (f sc 4) = -1) := by
    unfold sp_nx
    by_cases h : f sc 4 < f sc 1
    · rw [if_pos h]; exact Or.inl ⟨h, rfl⟩
    · rw [if_neg h]; exact Or.inr ⟨by omega, rfl⟩
  refine sv_aload_n (i := 0) dX3_isNext_0 rfl rfl ?_
  refine sv_getI (kz := 4) flX3_25 dX3_isNext_1 rfl rfl hsc.lt hsc.k ?_
  refine sv_aload_n (i := 0) dX3_isNext_4 rfl rfl ?_
  refine sv_getI (kz := 1) flX3_15 dX3_isNext_5 rfl rfl hsc.lt hsc.k ?_
  refine sv_icmp_ge (tgt := 28) dX3_isNext_8 (by decide) (by first | omega | exact hin _ _ | decide | (simp [sv_u, sv_row]; omega) | (simp [sv_u, sv_row]; exact hin _ _) | exact hin1 _ _ | (simp [sv_u, sv_row]; exact hin1 _ _)) (by first | omega | exact hin _ _ | decide | (simp [sv_u, sv_row]; omega) | (simp [sv_u, sv_row]; exact hin _ _) | exact hin1 _ _ | (simp [sv_u, sv_row]; exact hin1 _ _)) (fun h_8 => ?_) (fun h_8 => ?_)
  · refine sv_iconst dX3_isNext_28 ?_
    refine sv_zreturn dX3_isNext_29 rfl (by first | exact sv_b01 _ | decide) ?_
    exact ⟨by first | (rw [if_pos (by omega)]) | (rw [if_neg (by omega)]), rfl, rfl, rfl, rfl⟩
  · refine sv_aload_n (i := 0) dX3_isNext_11 rfl rfl ?_
    refine sv_getR (kz := 0) flX3_9 dX3_isNext_12 rfl rfl hsc.lt hsc.k hsc.r0 ?_
    refine sv_aload_n (i := 0) dX3_isNext_15 rfl rfl ?_
    refine sv_getI (kz := 4) flX3_25 dX3_isNext_16 rfl rfl hsc.lt hsc.k ?_
    refine sv_iald dX3_isNext_19 hsc.l0 hsc.s0 (by omega) ?_
    refine sv_iload_n (i := 1) dX3_isNext_20 rfl rfl ?_
    refine sv_icmp_ne (tgt := 28) dX3_isNext_21 (by decide) (by first | omega | exact hin _ _ | decide | (simp [sv_u, sv_row]; omega) | (simp [sv_u, sv_row]; exact hin _ _) | exact hin1 _ _ | (simp [sv_u, sv_row]; exact hin1 _ _)) (by first | omega | exact hin _ _ | decide | (simp [sv_u, sv_row]; omega) | (simp [sv_u, sv_row]; exact hin _ _) | exact hin1 _ _ | (simp [sv_u, sv_row]; exact hin1 _ _)) (fun h_21 => ?_) (fun h_21 => ?_)
    · refine sv_iconst dX3_isNext_28 ?_
      refine sv_zreturn dX3_isNext_29 rfl (by first | exact sv_b01 _ | decide) ?_
      exact ⟨by first | (rw [if_pos (by omega)]) | (rw [if_neg (by omega)]), rfl, rfl, rfl, rfl⟩
    · refine sv_iconst dX3_isNext_24 ?_
      refine sv_goto (tgt := 29) dX3_isNext_25 (by decide) ?_
      refine sv_zreturn dX3_isNext_29 rfl (by first | exact sv_b01 _ | decide) ?_
      exact ⟨by first | (rw [if_pos (by omega)]) | (rw [if_neg (by omega)]), rfl, rfl, rfl, rfl⟩
set_option maxRecDepth 100000 in
set_option maxHeartbeats 4000000 in
theorem c_X3_skipBlanks {X : sv_X} {S : sv_S} {f : sv_F} {r : sv_R} {g : sv_G} {sc tx vs : Nat} (hsc : sv_K3 S r sc tx vs) (h11 : 0 ≤ f sc 4 ∧ f sc 4 ≤ f sc 1) (h10 : f sc 1 ≤ 80) : sv_C X 0 MX3_skipBlanks 0 0 [sv_r sc] S f r g (sv_qv (fun f' => f' = sv_u f sc 4 (sp_sk (f tx) (f sc 1) (f sc 4))) S r g) := by
  refine sv_met (by decide) (by simp [lg_sl, sv_cv, va_rf, Value.category]) ?_
  refine sv_fr fun hin => ?_
  have hne : tx ≠ sc := hsc.2.2.2.2.1
  have lp : ∀ (k : Nat) (f1 : sv_F), f1 sc 1 - f1 sc 4 < (k : Int) → (0 ≤ f1 sc 4 ∧ f1 sc 4 ≤ f1 sc 1) → (f1 sc 1 ≤ 80) → (sv_u f1 sc 4 (sp_sk (f1 tx) (f1 sc 1) (f1 sc 4)) = sv_u f sc 4 (sp_sk (f tx) (f sc 1) (f sc 4))) → sv_T X (sv_rm 0 0 0) MX3_skipBlanks (sv_Zm X 0 0 (sv_qv (fun f' => f' = sv_u f sc 4 (sp_sk (f tx) (f sc 1) (f sc 4))) S r g)) 0 0 0 [some (sv_r sc)] [] S (f1) r g := by
    intro k
    induction k with
    | zero =>
      intro f1 hk h1 h2 h3
      exact absurd hk (by omega)
    | succ k ih =>
      intro f1 hk h1 h2 h3
      refine sv_fr fun hin1 => ?_
      refine sv_aload_n (i := 0) dX3_skipBlanks_0 rfl rfl ?_
      refine sv_getI (kz := 4) flX3_25 dX3_skipBlanks_1 rfl rfl hsc.lt hsc.k ?_
      refine sv_aload_n (i := 0) dX3_skipBlanks_4 rfl rfl ?_
      refine sv_getI (kz := 1) flX3_15 dX3_skipBlanks_5 rfl rfl hsc.lt hsc.k ?_
      refine sv_icmp_ge (tgt := 38) dX3_skipBlanks_8 (by decide) (by first | omega | exact hin _ _ | decide | (simp [sv_u, sv_row]; omega) | (simp [sv_u, sv_row]; exact hin _ _) | exact hin1 _ _ | (simp [sv_u, sv_row]; exact hin1 _ _)) (by first | omega | exact hin _ _ | decide | (simp [sv_u, sv_row]; omega) | (simp [sv_u, sv_row]; exact hin _ _) | exact hin1 _ _ | (simp [sv_u, sv_row]; exact hin1 _ _)) (fun h_8 => ?_) (fun h_8 => ?_)
      · refine sv_return dX3_skipBlanks_38 rfl ?_
        have hs : sp_nx (f1 tx) (f1 sc 1) (f1 sc 4) ≠ 32 := by unfold sp_nx; split <;> omega
        exact ⟨rfl, rfl, rfl, rfl, by rw [← h3, sp_sk_end hs]; exact sv_u_self rfl⟩
      · refine sv_aload_n (i := 0) dX3_skipBlanks_11 rfl rfl ?_
        refine sv_getR (kz := 0) flX3_9 dX3_skipBlanks_12 rfl rfl hsc.lt hsc.k hsc.r0 ?_
        refine sv_aload_n (i := 0) dX3_skipBlanks_15 rfl rfl ?_
        refine sv_getI (kz := 4) flX3_25 dX3_skipBlanks_16 rfl rfl hsc.lt hsc.k ?_
        refine sv_iald dX3_skipBlanks_19 hsc.l0 hsc.s0 (by omega) ?_
        refine sv_bipush dX3_skipBlanks_20 (by decide) ?_
        refine sv_icmp_ne (tgt := 38) dX3_skipBlanks_22 (by decide) (by first | omega | exact hin _ _ | decide | (simp [sv_u, sv_row]; omega) | (simp [sv_u, sv_row]; exact hin _ _) | exact hin1 _ _ | (simp [sv_u, sv_row]; exact hin1 _ _)) (by first | omega | exact hin _ _ | decide | (simp [sv_u, sv_row]; omega) | (simp [sv_u, sv_row]; exact hin _ _) | exact hin1 _ _ | (simp [sv_u, sv_row]; exact hin1 _ _)) (fun h_22 => ?_) (fun h_22 => ?_)
        · refine sv_return dX3_skipBlanks_38 rfl ?_
          have hs : sp_nx (f1 tx) (f1 sc 1) (f1 sc 4) ≠ 32 := by unfold sp_nx; split <;> omega
          exact ⟨rfl, rfl, rfl, rfl, by rw [← h3, sp_sk_end hs]; exact sv_u_self rfl⟩
        · refine sv_aload_n (i := 0) dX3_skipBlanks_25 rfl rfl ?_
          refine sv_dup dX3_skipBlanks_26 rfl ?_
          refine sv_getI (kz := 4) flX3_25 dX3_skipBlanks_27 rfl rfl hsc.lt hsc.k ?_
          refine sv_iconst dX3_skipBlanks_30 ?_
          refine sv_iadd dX3_skipBlanks_31 ?_
          refine sv_putI (kz := 4) flX3_25 dX3_skipBlanks_32 (Or.inl rfl) rfl rfl hsc.lt hsc.k (by first | omega | exact hin _ _ | decide | (simp [sv_u, sv_row]; omega) | (simp [sv_u, sv_row]; exact hin _ _) | exact hin1 _ _ | (simp [sv_u, sv_row]; exact hin1 _ _)) ?_
          refine sv_goto (tgt := 0) dX3_skipBlanks_35 (by decide) ?_
          have hs : sp_nx (f1 tx) (f1 sc 1) (f1 sc 4) = 32 := by unfold sp_nx; rw [if_pos (by omega)]; omega
          refine ih _ (by simp [sv_u]; omega) (by simp [sv_u]; omega) (by simp [sv_u]; omega) ?_
          rw [← h3, sp_sk_on hs, sv_u_ne hne, show sv_u f1 sc 4 (f1 sc 4 + 1) sc 1 = f1 sc 1 by simp [sv_u], show sv_u f1 sc 4 (f1 sc 4 + 1) sc 4 = f1 sc 4 + 1 by simp [sv_u], sv_u_u]
  exact lp (f sc 1 + 1).toNat f (by omega) h11 h10 rfl

