set_option maxRecDepth 100000 in
set_option maxHeartbeats 4000000 in
theorem c_X4_clear {X : sv_X} {S : sv_S} {f : sv_F} {r : sv_R} {g : sv_G} {V q d fo rs fi se pa sc : Nat} {kp fd : Int → Nat} {m : Int → Int} (hve : sv_K4 S r V q d fi se pa sc) (hmo : sv_K1 S r q kp) (hmv : sv_V1 f q kp m) (hre : sv_K2 S r d fo rs fd) (hw : sp_wt m) {tx vs : Nat} (hsc : sv_K3 S r sc tx vs) : sv_C X 0 MX4_clear 0 0 [sv_r V] S f r g (sv_qi (fun b f' => b = f sc 1 ∧ f' = sv_u f sc 1 0) S r g) := by
  refine sv_met (by decide) (by simp [lg_sl, sv_cv, va_rf, Value.category]) ?_
  refine sv_fr fun hin => ?_
  refine sv_aload_n (i := 0) dX4_clear_0 rfl rfl ?_
  refine sv_getR (kz := 3) flX4_27 dX4_clear_1 rfl rfl hve.lt hve.k hve.r3 ?_
  refine sv_getI (kz := 1) flX4_45 dX4_clear_4 rfl rfl hsc.lt hsc.k ?_
  refine sv_istore_n (i := 1) dX4_clear_7 rfl (by decide) rfl ?_
  refine sv_aload_n (i := 0) dX4_clear_8 rfl rfl ?_
  refine sv_getR (kz := 3) flX4_27 dX4_clear_9 rfl rfl hve.lt hve.k hve.r3 ?_
  refine sv_iconst dX4_clear_12 ?_
  refine sv_putI (kz := 1) flX4_45 dX4_clear_13 (Or.inl rfl) rfl rfl hsc.lt hsc.k (by first | omega | exact hin _ _ | decide | (simp [sv_u, sv_row]; omega) | (simp [sv_u, sv_row]; exact hin _ _) | exact hin1 _ _ | (simp [sv_u, sv_row]; exact hin1 _ _)) ?_
  refine sv_iload_n (i := 1) dX4_clear_16 rfl rfl ?_
  refine sv_ireturn dX4_clear_17 rfl ?_
  exact ⟨_, rfl, rfl, rfl, rfl, rfl, rfl⟩
set_option maxRecDepth 100000 in
set_option maxHeartbeats 4000000 in
theorem c_X4_type {X : sv_X} {S : sv_S} {f : sv_F} {r : sv_R} {g : sv_G} {V q d fo rs fi se pa sc : Nat} {kp fd : Int → Nat} {m : Int → Int} (hve : sv_K4 S r V q d fi se pa sc) (hmo : sv_K1 S r q kp) (hmv : sv_V1 f q kp m) (hre : sv_K2 S r d fo rs fd) (hw : sp_wt m) {tx vs : Nat} (hsc : sv_K3 S r sc tx vs) (h10 : 0 ≤ f sc 1 ∧ f sc 1 ≤ 80) (a : Int) (ha : sv_in a) : sv_C X 0 MX4_type 0 0 [sv_r V, sv_i a] S f r g (sv_qi (fun b f' => (¬ (0 ≤ a ∧ a ≤ 127) ∧ b = -2 ∧ f' = f) ∨ (0 ≤ a ∧ a ≤ 127 ∧ f sc 1 = 80 ∧ b = -4 ∧ f' = f) ∨ (0 ≤ a ∧ a ≤ 127 ∧ f sc 1 < 80 ∧ b = f sc 1 + 1 ∧ f' = sv_u (sv_u f tx (f sc 1) a) sc 1 (f sc 1 + 1))) S r g) := by
  refine sv_met (by decide) (by simp [lg_sl, sv_cv, va_rf, Value.category]) ?_
  refine sv_fr fun hin => ?_
  have hne : tx ≠ sc := hsc.2.2.2.2.1
  refine sv_iload_n (i := 1) dX4_type_0 rfl rfl ?_
  refine sv_if_lt (tgt := 10) dX4_type_1 (by decide) (by first | omega | exact hin _ _ | decide | (simp [sv_u, sv_row]; omega) | (simp [sv_u, sv_row]; exact hin _ _) | exact hin1 _ _ | (simp [sv_u, sv_row]; exact hin1 _ _)) (fun h_1 => ?_) (fun h_1 => ?_)
  · refine sv_bipush dX4_type_10 (by decide) ?_
    refine sv_ireturn dX4_type_12 rfl ?_
    exact ⟨_, rfl, rfl, rfl, rfl, Or.inl ⟨by omega, rfl, rfl⟩⟩
  · refine sv_iload_n (i := 1) dX4_type_4 rfl rfl ?_
    refine sv_bipush dX4_type_5 (by decide) ?_
    refine sv_icmp_le (tgt := 13) dX4_type_7 (by decide) (by first | omega | exact hin _ _ | decide | (simp [sv_u, sv_row]; omega) | (simp [sv_u, sv_row]; exact hin _ _) | exact hin1 _ _ | (simp [sv_u, sv_row]; exact hin1 _ _)) (by first | omega | exact hin _ _ | decide | (simp [sv_u, sv_row]; omega) | (simp [sv_u, sv_row]; exact hin _ _) | exact hin1 _ _ | (simp [sv_u, sv_row]; exact hin1 _ _)) (fun h_7 => ?_) (fun h_7 => ?_)
    · refine sv_aload_n (i := 0) dX4_type_13 rfl rfl ?_
      refine sv_getR (kz := 3) flX4_27 dX4_type_14 rfl rfl hve.lt hve.k hve.r3 ?_
      refine sv_getI (kz := 1) flX4_45 dX4_type_17 rfl rfl hsc.lt hsc.k ?_
      refine sv_bipush dX4_type_20 (by decide) ?_
      refine sv_icmp_lt (tgt := 28) dX4_type_22 (by decide) (by first | omega | exact hin _ _ | decide | (simp [sv_u, sv_row]; omega) | (simp [sv_u, sv_row]; exact hin _ _) | exact hin1 _ _ | (simp [sv_u, sv_row]; exact hin1 _ _)) (by first | omega | exact hin _ _ | decide | (simp [sv_u, sv_row]; omega) | (simp [sv_u, sv_row]; exact hin _ _) | exact hin1 _ _ | (simp [sv_u, sv_row]; exact hin1 _ _)) (fun h_22 => ?_) (fun h_22 => ?_)
      · refine sv_aload_n (i := 0) dX4_type_28 rfl rfl ?_
        refine sv_getR (kz := 3) flX4_27 dX4_type_29 rfl rfl hve.lt hve.k hve.r3 ?_
        refine sv_getR (kz := 0) flX4_48 dX4_type_32 rfl rfl hsc.lt hsc.k hsc.r0 ?_
        refine sv_aload_n (i := 0) dX4_type_35 rfl rfl ?_
        refine sv_getR (kz := 3) flX4_27 dX4_type_36 rfl rfl hve.lt hve.k hve.r3 ?_
        refine sv_getI (kz := 1) flX4_45 dX4_type_39 rfl rfl hsc.lt hsc.k ?_
        refine sv_iload_n (i := 1) dX4_type_42 rfl rfl ?_
        refine sv_iast dX4_type_43 hsc.l0 hsc.s0 (by omega) (by first | omega | exact hin _ _ | decide | (simp [sv_u, sv_row]; omega) | (simp [sv_u, sv_row]; exact hin _ _) | exact hin1 _ _ | (simp [sv_u, sv_row]; exact hin1 _ _)) ?_
        refine sv_aload_n (i := 0) dX4_type_44 rfl rfl ?_
        refine sv_getR (kz := 3) flX4_27 dX4_type_45 rfl rfl hve.lt hve.k hve.r3 ?_
        refine sv_dup dX4_type_48 rfl ?_
        refine sv_getI (kz := 1) flX4_45 dX4_type_49 rfl rfl hsc.lt hsc.k ?_
        rw [show sv_u f tx (f sc 1) a sc 1 = f sc 1 by rw [sv_u_ne (Ne.symm hne)]]
        refine sv_iconst dX4_type_52 ?_
        refine sv_iadd dX4_type_53 ?_
        refine sv_putI (kz := 1) flX4_45 dX4_type_54 (Or.inl rfl) rfl rfl hsc.lt hsc.k (by first | omega | exact hin _ _ | decide | (simp [sv_u, sv_row]; omega) | (simp [sv_u, sv_row]; exact hin _ _) | exact hin1 _ _ | (simp [sv_u, sv_row]; exact hin1 _ _)) ?_
        refine sv_aload_n (i := 0) dX4_type_57 rfl rfl ?_
        refine sv_getR (kz := 3) flX4_27 dX4_type_58 rfl rfl hve.lt hve.k hve.r3 ?_
        refine sv_getI (kz := 1) flX4_45 dX4_type_61 rfl rfl hsc.lt hsc.k ?_
        refine sv_ireturn dX4_type_64 rfl ?_
        exact ⟨_, rfl, rfl, rfl, rfl, Or.inr (Or.inr ⟨by omega, by omega, by omega, by simp [sv_u], rfl⟩)⟩
      · refine sv_bipush dX4_type_25 (by decide) ?_
        refine sv_ireturn dX4_type_27 rfl ?_
        exact ⟨_, rfl, rfl, rfl, rfl, Or.inr (Or.inl ⟨by omega, by omega, by omega, rfl, rfl⟩)⟩
    · refine sv_bipush dX4_type_10 (by decide) ?_
      refine sv_ireturn dX4_type_12 rfl ?_
      exact ⟨_, rfl, rfl, rfl, rfl, Or.inl ⟨by omega, rfl, rfl⟩⟩
