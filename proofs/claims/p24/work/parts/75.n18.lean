set_option maxRecDepth 100000 in
set_option maxHeartbeats 4000000 in
theorem c_X3_takeDigits {X : sv_X} {S : sv_S} {f : sv_F} {r : sv_R} {g : sv_G} {sc tx vs : Nat} (hsc : sv_K3 S r sc tx vs) (h11 : 0 ≤ f sc 4 ∧ f sc 4 ≤ f sc 1) (h10 : f sc 1 ≤ 80) : sv_C X 1 MX3_takeDigits 0 0 [sv_r sc] S f r g (sv_qi (fun a f' => a = sp_nv (f tx) (f sc 1) (f sc 4) ∧ ((sp_dg (f tx) (f sc 1) (f sc 4) = true ∧ f' = sv_u f sc 4 (f sc 4 + sp_nl (f tx) (f sc 1) (f sc 4))) ∨ (¬ sp_dg (f tx) (f sc 1) (f sc 4) = true ∧ f' = sv_u f sc 5 (if f sc 5 = -1 then f sc 4 else f sc 5)))) S r g) := by
  refine sv_met (by decide) (by simp [lg_sl, sv_cv, va_rf, Value.category]) ?_
  refine sv_fr fun hin => ?_
  have hne : tx ≠ sc := hsc.2.2.2.2.1
  refine sv_aload_n (i := 0) dX3_takeDigits_0 rfl rfl ?_
  refine sv_vp0 (As := []) clX3_120 dX3_takeDigits_1 ⟨_, rfl, rfl⟩ (by decide) rfl (Nat.le_of_ble_eq_true rfl) (by decide) (by decide) hsc.lt hsc.k (c_X3_isDigitNext hsc h11 h10) ?_
  refine sv_bif_ne (tgt := 17) dX3_takeDigits_4 (by decide) (fun h_4 => ?_) (fun h_4 => ?_)
  · have hd1 : sp_dg (f tx) (f sc 1) (f sc 4) = true := by assumption
    have hl1 := sp_dg_lt hd1
    have x4 : (sv_u f sc 4 (f sc 4 + 1)) sc 4 = f sc 4 + 1 := by simp [sv_u]
    have x1 : (sv_u f sc 4 (f sc 4 + 1)) sc 1 = f sc 1 := by simp [sv_u]
    have xt : (sv_u f sc 4 (f sc 4 + 1)) tx = f tx := sv_u_ne hne
    refine sv_aload_n (i := 0) dX3_takeDigits_17 rfl rfl ?_
    refine sv_getR (kz := 0) flX3_9 dX3_takeDigits_18 rfl rfl hsc.lt hsc.k hsc.r0 ?_
    refine sv_aload_n (i := 0) dX3_takeDigits_21 rfl rfl ?_
    refine sv_getI (kz := 4) flX3_25 dX3_takeDigits_22 rfl rfl hsc.lt hsc.k ?_
    refine sv_iald dX3_takeDigits_25 hsc.l0 hsc.s0 (by omega) ?_
    refine sv_bipush dX3_takeDigits_26 (by decide) ?_
    refine sv_isub dX3_takeDigits_28 ?_
    refine sv_istore_n (i := 1) dX3_takeDigits_29 rfl (by decide) rfl ?_
    refine sv_aload_n (i := 0) dX3_takeDigits_30 rfl rfl ?_
    refine sv_dup dX3_takeDigits_31 rfl ?_
    refine sv_getI (kz := 4) flX3_25 dX3_takeDigits_32 rfl rfl hsc.lt hsc.k ?_
    refine sv_iconst dX3_takeDigits_35 ?_
    refine sv_iadd dX3_takeDigits_36 ?_
    refine sv_putI (kz := 4) flX3_25 dX3_takeDigits_37 (Or.inl rfl) rfl rfl hsc.lt hsc.k (by first | omega | exact hin _ _ | decide | (simp [sv_u, sv_row]; omega) | (simp [sv_u, sv_row]; exact hin _ _) | exact hin1 _ _ | (simp [sv_u, sv_row]; exact hin1 _ _)) ?_
    refine sv_aload_n (i := 0) dX3_takeDigits_40 rfl rfl ?_
    refine sv_vp0 (As := []) clX3_120 dX3_takeDigits_41 ⟨_, rfl, rfl⟩ (by decide) rfl (Nat.le_of_ble_eq_true rfl) (by decide) (by decide) hsc.lt hsc.k (c_X3_isDigitNext (f := (sv_u f sc 4 (f sc 4 + 1))) hsc (by rw [x4, x1]; omega) (by rw [x1]; exact h10)) ?_
    rw [x4, x1, xt]
    refine sv_bif_eq (tgt := 75) dX3_takeDigits_44 (by decide) (fun h_44 => ?_) (fun h_44 => ?_)
    · try rw [sv_u_u]
      refine sv_iload_n (i := 1) dX3_takeDigits_75 rfl rfl ?_
      refine sv_ireturn dX3_takeDigits_76 rfl ?_
      first
      | (refine ⟨_, rfl, rfl, rfl, rfl, ?_, Or.inl ⟨hd1, ?_⟩⟩
         · unfold sp_nv; rw [if_pos hd1, if_pos (by assumption)]; omega
         · unfold sp_nl; rw [if_pos hd1, if_pos (by assumption)]; exact congrArg _ (by omega))
      | (refine ⟨_, rfl, rfl, rfl, rfl, ?_, Or.inl ⟨hd1, ?_⟩⟩
         · unfold sp_nv; rw [if_pos hd1, if_neg (by assumption)]
         · unfold sp_nl; rw [if_pos hd1, if_neg (by assumption)])
    · have hl2 := sp_dg_lt (by assumption : sp_dg (f tx) (f sc 1) (f sc 4 + 1) = true)
      refine sv_bipush dX3_takeDigits_47 (by decide) ?_
      refine sv_iload_n (i := 1) dX3_takeDigits_49 rfl rfl ?_
      refine sv_imul dX3_takeDigits_50 ?_
      refine sv_aload_n (i := 0) dX3_takeDigits_51 rfl rfl ?_
      refine sv_getR (kz := 0) flX3_9 dX3_takeDigits_52 rfl rfl hsc.lt hsc.k hsc.r0 ?_
      refine sv_aload_n (i := 0) dX3_takeDigits_55 rfl rfl ?_
      refine sv_getI (kz := 4) flX3_25 dX3_takeDigits_56 rfl rfl hsc.lt hsc.k ?_
      rw [x4]
      refine sv_iald dX3_takeDigits_59 hsc.l0 hsc.s0 (by omega) ?_
      rw [xt]
      refine sv_iadd dX3_takeDigits_60 ?_
      refine sv_bipush dX3_takeDigits_61 (by decide) ?_
      refine sv_isub dX3_takeDigits_63 ?_
      refine sv_istore_n (i := 1) dX3_takeDigits_64 rfl (by decide) rfl ?_
      refine sv_aload_n (i := 0) dX3_takeDigits_65 rfl rfl ?_
      refine sv_dup dX3_takeDigits_66 rfl ?_
      refine sv_getI (kz := 4) flX3_25 dX3_takeDigits_67 rfl rfl hsc.lt hsc.k ?_
      rw [x4]
      refine sv_iconst dX3_takeDigits_70 ?_
      refine sv_iadd dX3_takeDigits_71 ?_
      refine sv_putI (kz := 4) flX3_25 dX3_takeDigits_72 (Or.inl rfl) rfl rfl hsc.lt hsc.k (by first | omega | exact hin _ _ | decide | (simp [sv_u, sv_row]; omega) | (simp [sv_u, sv_row]; exact hin _ _) | exact hin1 _ _ | (simp [sv_u, sv_row]; exact hin1 _ _)) ?_
      try rw [sv_u_u]
      refine sv_iload_n (i := 1) dX3_takeDigits_75 rfl rfl ?_
      refine sv_ireturn dX3_takeDigits_76 rfl ?_
      first
      | (refine ⟨_, rfl, rfl, rfl, rfl, ?_, Or.inl ⟨hd1, ?_⟩⟩
         · unfold sp_nv; rw [if_pos hd1, if_pos (by assumption)]; omega
         · unfold sp_nl; rw [if_pos hd1, if_pos (by assumption)]; exact congrArg _ (by omega))
      | (refine ⟨_, rfl, rfl, rfl, rfl, ?_, Or.inl ⟨hd1, ?_⟩⟩
         · unfold sp_nv; rw [if_pos hd1, if_neg (by assumption)]
         · unfold sp_nl; rw [if_pos hd1, if_neg (by assumption)])
  · refine sv_aload_n (i := 0) dX3_takeDigits_7 rfl rfl ?_
    refine sv_aload_n (i := 0) dX3_takeDigits_8 rfl rfl ?_
    refine sv_getI (kz := 4) flX3_25 dX3_takeDigits_9 rfl rfl hsc.lt hsc.k ?_
    refine sv_vv0 (As := [_]) clX3_92 dX3_takeDigits_12 ⟨_, rfl, rfl⟩ (by decide) rfl (Nat.le_of_ble_eq_true rfl) (by decide) (by decide) hsc.lt hsc.k (c_X3_failAt hsc _ (by omega)) (fun f2 hf2 => ?_)
    refine sv_iconst dX3_takeDigits_15 ?_
    refine sv_ireturn dX3_takeDigits_16 rfl ?_
    exact ⟨_, rfl, rfl, rfl, rfl, by unfold sp_nv; rw [if_neg (by assumption)], Or.inr ⟨by assumption, hf2⟩⟩
set_option maxRecDepth 100000 in
set_option maxHeartbeats 4000000 in
theorem c_X3_takeSemicolon {X : sv_X} {S : sv_S} {f : sv_F} {r : sv_R} {g : sv_G} {sc tx vs : Nat} (hsc : sv_K3 S r sc tx vs) (h11 : 0 ≤ f sc 4 ∧ f sc 4 ≤ f sc 1) (h10 : f sc 1 ≤ 80) : sv_C X 1 MX3_takeSemicolon 0 0 [sv_r sc] S f r g (sv_qv (fun f' => (sp_nx (f tx) (f sc 1) (sp_sk (f tx) (f sc 1) (f sc 4)) = 59 ∧ f' = sv_u f sc 4 ((sp_sk (f tx) (f sc 1) (f sc 4)) + 1)) ∨ (sp_nx (f tx) (f sc 1) (sp_sk (f tx) (f sc 1) (f sc 4)) ≠ 59 ∧ f' = sv_u (sv_u f sc 4 (sp_sk (f tx) (f sc 1) (f sc 4))) sc 5 (if f sc 5 = -1 then (sp_sk (f tx) (f sc 1) (f sc 4)) else f sc 5))) S r g) := by
  refine sv_met (by decide) (by simp [lg_sl, sv_cv, va_rf, Value.category]) ?_
  refine sv_fr fun hin => ?_
  have hne : tx ≠ sc := hsc.2.2.2.2.1
  refine sv_aload_n (i := 0) dX3_takeSemicolon_0 rfl rfl ?_
  refine sv_vv0 (As := []) clX3_37 dX3_takeSemicolon_1 ⟨_, rfl, rfl⟩ (by decide) rfl (Nat.le_of_ble_eq_true rfl) (by decide) (by decide) hsc.lt hsc.k (c_X3_skipBlanks hsc h11 h10) (fun f1 hf1 => ?_)
  subst hf1
  have hb := sp_sk_bd (t := f tx) h11.2
  have x4 : (sv_u f sc 4 (sp_sk (f tx) (f sc 1) (f sc 4))) sc 4 = (sp_sk (f tx) (f sc 1) (f sc 4)) := by simp [sv_u]
  have x1 : (sv_u f sc 4 (sp_sk (f tx) (f sc 1) (f sc 4))) sc 1 = f sc 1 := by simp [sv_u]
  have x5 : (sv_u f sc 4 (sp_sk (f tx) (f sc 1) (f sc 4))) sc 5 = f sc 5 := by simp [sv_u]
  have xt : (sv_u f sc 4 (sp_sk (f tx) (f sc 1) (f sc 4))) tx = f tx := sv_u_ne hne
  refine sv_aload_n (i := 0) dX3_takeSemicolon_4 rfl rfl ?_
  refine sv_bipush dX3_takeSemicolon_5 (by decide) ?_
  refine sv_vp0 (As := [_]) clX3_123 dX3_takeSemicolon_7 ⟨_, rfl, rfl⟩ (by decide) rfl (Nat.le_of_ble_eq_true rfl) (by decide) (by decide) hsc.lt hsc.k (c_X3_isNext (f := (sv_u f sc 4 (sp_sk (f tx) (f sc 1) (f sc 4)))) hsc (by rw [x4, x1]; omega) (by rw [x1]; exact h10) 59 (by decide)) ?_
  rw [x4, x1, xt]
  refine sv_bif_eq (tgt := 26) dX3_takeSemicolon_10 (by decide) (fun h_10 => ?_) (fun h_10 => ?_)
  · refine sv_aload_n (i := 0) dX3_takeSemicolon_26 rfl rfl ?_
    refine sv_aload_n (i := 0) dX3_takeSemicolon_27 rfl rfl ?_
    refine sv_getI (kz := 4) flX3_25 dX3_takeSemicolon_28 rfl rfl hsc.lt hsc.k ?_
    rw [x4]
    refine sv_vv0 (As := [_]) clX3_92 dX3_takeSemicolon_31 ⟨_, rfl, rfl⟩ (by decide) rfl (Nat.le_of_ble_eq_true rfl) (by decide) (by decide) hsc.lt hsc.k (c_X3_failAt (f := (sv_u f sc 4 (sp_sk (f tx) (f sc 1) (f sc 4)))) hsc _ (by omega)) (fun f2 hf2 => ?_)
    refine sv_return dX3_takeSemicolon_34 rfl ?_
    first
    | (rw [x5] at hf2; exact ⟨rfl, rfl, rfl, rfl, Or.inr ⟨by assumption, hf2⟩⟩)
    | exact ⟨rfl, rfl, rfl, rfl, Or.inl ⟨by assumption, rfl⟩⟩
  · refine sv_aload_n (i := 0) dX3_takeSemicolon_13 rfl rfl ?_
    refine sv_dup dX3_takeSemicolon_14 rfl ?_
    refine sv_getI (kz := 4) flX3_25 dX3_takeSemicolon_15 rfl rfl hsc.lt hsc.k ?_
    rw [x4]
    refine sv_iconst dX3_takeSemicolon_18 ?_
    refine sv_iadd dX3_takeSemicolon_19 ?_
    refine sv_putI (kz := 4) flX3_25 dX3_takeSemicolon_20 (Or.inl rfl) rfl rfl hsc.lt hsc.k (by first | omega | exact hin _ _ | decide | (simp [sv_u, sv_row]; omega) | (simp [sv_u, sv_row]; exact hin _ _) | exact hin1 _ _ | (simp [sv_u, sv_row]; exact hin1 _ _)) ?_
    rw [sv_u_u]
    refine sv_goto (tgt := 34) dX3_takeSemicolon_23 (by decide) ?_
    refine sv_return dX3_takeSemicolon_34 rfl ?_
    first
    | (rw [x5] at hf2; exact ⟨rfl, rfl, rfl, rfl, Or.inr ⟨by assumption, hf2⟩⟩)
    | exact ⟨rfl, rfl, rfl, rfl, Or.inl ⟨by assumption, rfl⟩⟩
