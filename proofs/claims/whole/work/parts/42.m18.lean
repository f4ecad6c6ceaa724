set_option maxRecDepth 100000 in
set_option maxHeartbeats 4000000 in
theorem c_X5_next {X : sv_X} {S : sv_S} {f : sv_F} {r : sv_R} {g : sv_G} {o : Nat} (hsh : sv_M5 S r o) (h11 : 0 ≤ f o 11 ∧ f o 11 ≤ f o 10) (h10 : f o 10 ≤ 80) : sv_C X 0 MX5_next 0 0 [sv_r o] S f r g (sv_qp (some (sv_i (sp_nx (f (o + 7)) (f o 10) (f o 11)))) S f r g) := by
  refine sv_met (by decide) (by simp [lg_sl, sv_cv, va_rf, Value.category]) ?_
  refine sv_fr fun hin => ?_
  refine sv_aload_n (i := 0) dX5_next_0 rfl rfl ?_
  refine sv_getI (kz := 11) flX5_88 dX5_next_1 rfl rfl hsh.lt hsh.k ?_
  refine sv_aload_n (i := 0) dX5_next_4 rfl rfl ?_
  refine sv_getI (kz := 10) flX5_85 dX5_next_5 rfl rfl hsh.lt hsh.k ?_
  refine sv_icmp_ge (tgt := 23) dX5_next_8 (by decide) (by first | omega | exact hin _ _ | decide | (simp [sv_u, sv_row]; omega) | (simp [sv_u, sv_row]; exact hin _ _) | exact hin1 _ _ | (simp [sv_u, sv_row]; exact hin1 _ _)) (by first | omega | exact hin _ _ | decide | (simp [sv_u, sv_row]; omega) | (simp [sv_u, sv_row]; exact hin _ _) | exact hin1 _ _ | (simp [sv_u, sv_row]; exact hin1 _ _)) (fun h_8 => ?_) (fun h_8 => ?_)
  · refine sv_iconst dX5_next_23 ?_
    refine sv_ireturn dX5_next_24 rfl ?_
    exact ⟨by unfold sp_nx; first | rw [if_pos (by omega)] | rw [if_neg (by omega)], rfl, rfl, rfl, rfl⟩
  · refine sv_aload_n (i := 0) dX5_next_11 rfl rfl ?_
    refine sv_getR (kz := 9) flX5_28 dX5_next_12 rfl rfl hsh.lt hsh.k hsh.r7 ?_
    refine sv_aload_n (i := 0) dX5_next_15 rfl rfl ?_
    refine sv_getI (kz := 11) flX5_88 dX5_next_16 rfl rfl hsh.lt hsh.k ?_
    refine sv_iald dX5_next_19 hsh.l7 hsh.s7 (by omega) ?_
    refine sv_goto (tgt := 24) dX5_next_20 (by decide) ?_
    refine sv_ireturn dX5_next_24 rfl ?_
    exact ⟨by unfold sp_nx; first | rw [if_pos (by omega)] | rw [if_neg (by omega)], rfl, rfl, rfl, rfl⟩
set_option maxRecDepth 100000 in
set_option maxHeartbeats 4000000 in
theorem c_X5_isDigit {X : sv_X} {S : sv_S} {f : sv_F} {r : sv_R} {g : sv_G} {o : Nat} (hsh : sv_M5 S r o) (h11 : 0 ≤ f o 11 ∧ f o 11 ≤ f o 10) (h10 : f o 10 ≤ 80) : sv_C X 1 MX5_isDigit 0 0 [sv_r o] S f r g (sv_qp (some (sv_i (if sp_dg (f (o + 7)) (f o 10) (f o 11) then 1 else 0))) S f r g) := by
  refine sv_met (by decide) (by simp [lg_sl, sv_cv, va_rf, Value.category]) ?_
  refine sv_fr fun hin => ?_
  refine sv_aload_n (i := 0) dX5_isDigit_0 rfl rfl ?_
  refine sv_vp0 (As := []) clX5_91 dX5_isDigit_1 ⟨_, rfl, rfl⟩ (by decide) rfl (Nat.le_of_ble_eq_true rfl) (by decide) (by decide) hsh.lt hsh.k (c_X5_next hsh h11 h10) ?_
  refine sv_bipush dX5_isDigit_4 (by decide) ?_
  refine sv_bipush dX5_isDigit_6 (by decide) ?_
  have hnx : sv_in (sp_nx (f (o + 7)) (f o 10) (f o 11)) := by unfold sp_nx; split <;> first | exact hin _ _ | decide
  refine sv_sp0 (As := [_, _, _]) clX5_81 dX5_isDigit_8 rfl (Nat.le_of_ble_eq_true rfl) (by decide) (by decide) (c_X5_in _ _ _ hnx (by omega) (by omega)) ?_
  refine sv_zreturn dX5_isDigit_11 rfl (by first | exact sv_b01 _ | decide) ?_
  exact ⟨by congr 2; simp only [← sp_dg_iff], rfl, rfl, rfl, rfl⟩
set_option maxRecDepth 100000 in
set_option maxHeartbeats 4000000 in
theorem c_X5_skips {X : sv_X} {S : sv_S} {f : sv_F} {r : sv_R} {g : sv_G} {o : Nat} (hsh : sv_M5 S r o) (h11 : 0 ≤ f o 11 ∧ f o 11 ≤ f o 10) (h10 : f o 10 ≤ 80) : sv_C X 1 MX5_skips 0 0 [sv_r o] S f r g (sv_qv (fun f' => f' = sv_u f o 11 (sp_sk (f (o + 7)) (f o 10) (f o 11))) S r g) := by
  refine sv_met (by decide) (by simp [lg_sl, sv_cv, va_rf, Value.category]) ?_
  refine sv_fr fun hin => ?_
  have lp : ∀ (k : Nat) (f1 : sv_F), f1 o 10 - f1 o 11 < (k : Int) → (0 ≤ f1 o 11 ∧ f1 o 11 ≤ f1 o 10) → (f1 o 10 ≤ 80) → (sv_u f1 o 11 (sp_sk (f1 (o + 7)) (f1 o 10) (f1 o 11)) = sv_u f o 11 (sp_sk (f (o + 7)) (f o 10) (f o 11))) → sv_T X (sv_rm 1 0 0) MX5_skips (sv_Zm X 0 0 (sv_qv (fun f' => f' = sv_u f o 11 (sp_sk (f (o + 7)) (f o 10) (f o 11))) S r g)) 0 0 0 [some (sv_r o)] [] S (f1) r g := by
    intro k
    induction k with
    | zero =>
      intro f1 hk h1 h2 h3
      exact absurd hk (by omega)
    | succ k ih =>
      intro f1 hk h1 h2 h3
      refine sv_fr fun hin1 => ?_
      refine sv_aload_n (i := 0) dX5_skips_0 rfl rfl ?_
      refine sv_vp0 (As := []) clX5_91 dX5_skips_1 ⟨_, rfl, rfl⟩ (by decide) rfl (Nat.le_of_ble_eq_true rfl) (by decide) (by decide) hsh.lt hsh.k (c_X5_next hsh h1 h2) ?_
      refine sv_bipush dX5_skips_4 (by decide) ?_
      have hnx : sv_in (sp_nx (f1 (o + 7)) (f1 o 10) (f1 o 11)) := by unfold sp_nx; split <;> first | exact hin1 _ _ | decide
      refine sv_icmp_ne (tgt := 22) dX5_skips_6 (by decide) hnx (by first | omega | exact hin _ _ | decide | (simp [sv_u, sv_row]; omega) | (simp [sv_u, sv_row]; exact hin _ _) | exact hin1 _ _ | (simp [sv_u, sv_row]; exact hin1 _ _)) (fun h_6 => ?_) (fun h_6 => ?_)
      · refine sv_return dX5_skips_22 rfl ?_
        exact ⟨rfl, rfl, rfl, rfl, by rw [← h3, sp_sk_end h_6]; exact sv_u_self rfl⟩
      · have hlt : f1 o 11 < f1 o 10 := by
          by_cases hlt : f1 o 11 < f1 o 10
          · exact hlt
          · exfalso; unfold sp_nx at h_6; rw [if_neg hlt] at h_6; omega
        refine sv_aload_n (i := 0) dX5_skips_9 rfl rfl ?_
        refine sv_dup dX5_skips_10 rfl ?_
        refine sv_getI (kz := 11) flX5_88 dX5_skips_11 rfl rfl hsh.lt hsh.k ?_
        refine sv_iconst dX5_skips_14 ?_
        refine sv_iadd dX5_skips_15 ?_
        refine sv_putI (kz := 11) flX5_88 dX5_skips_16 (Or.inl rfl) rfl rfl hsh.lt hsh.k (by omega) ?_
        refine sv_goto (tgt := 0) dX5_skips_19 (by decide) ?_
        refine ih _ (by simp [sv_u]; omega) (by simp [sv_u]; omega) (by simp [sv_u]; omega) ?_
        rw [← h3, sp_sk_on h_6, sv_u_ne (by omega), show sv_u f1 o 11 (f1 o 11 + 1) o 10 = f1 o 10 by simp [sv_u], show sv_u f1 o 11 (f1 o 11 + 1) o 11 = f1 o 11 + 1 by simp [sv_u], sv_u_u]
  exact lp (f o 10 + 1).toNat f (by omega) h11 h10 rfl

set_option maxRecDepth 100000 in
set_option maxHeartbeats 4000000 in
theorem c_X5_fails {X : sv_X} {S : sv_S} {f : sv_F} {r : sv_R} {g : sv_G} {o : Nat} (hsh : sv_M5 S r o) (a : Int) (ha : sv_in a) : sv_C X 0 MX5_fails 0 0 [sv_r o, sv_i a] S f r g (sv_qv (fun f' => f' = sv_u f o 12 (if f o 12 = -1 then a else f o 12)) S r g) := by
  refine sv_met (by decide) (by simp [lg_sl, sv_cv, va_rf, Value.category]) ?_
  refine sv_fr fun hin => ?_
  refine sv_aload_n (i := 0) dX5_fails_0 rfl rfl ?_
  refine sv_aload_n (i := 0) dX5_fails_1 rfl rfl ?_
  refine sv_getI (kz := 12) flX5_94 dX5_fails_2 rfl rfl hsh.lt hsh.k ?_
  refine sv_iconst dX5_fails_5 ?_
  refine sv_icmp_ne (tgt := 13) dX5_fails_6 (by decide) (by first | omega | exact hin _ _ | decide | (simp [sv_u, sv_row]; omega) | (simp [sv_u, sv_row]; exact hin _ _) | exact hin1 _ _ | (simp [sv_u, sv_row]; exact hin1 _ _)) (by first | omega | exact hin _ _ | decide | (simp [sv_u, sv_row]; omega) | (simp [sv_u, sv_row]; exact hin _ _) | exact hin1 _ _ | (simp [sv_u, sv_row]; exact hin1 _ _)) (fun h_6 => ?_) (fun h_6 => ?_)
  · refine sv_aload_n (i := 0) dX5_fails_13 rfl rfl ?_
    refine sv_getI (kz := 12) flX5_94 dX5_fails_14 rfl rfl hsh.lt hsh.k ?_
    refine sv_putI (kz := 12) flX5_94 dX5_fails_17 (Or.inl rfl) rfl rfl hsh.lt hsh.k (by first | omega | exact hin _ _ | decide | (simp [sv_u, sv_row]; omega) | (simp [sv_u, sv_row]; exact hin _ _) | exact hin1 _ _ | (simp [sv_u, sv_row]; exact hin1 _ _)) ?_
    refine sv_return dX5_fails_20 rfl ?_
    exact ⟨rfl, rfl, rfl, rfl, by first | rw [if_pos (by assumption)] | rw [if_neg (by assumption)]⟩
  · refine sv_iload_n (i := 1) dX5_fails_9 rfl rfl ?_
    refine sv_goto (tgt := 17) dX5_fails_10 (by decide) ?_
    refine sv_putI (kz := 12) flX5_94 dX5_fails_17 (Or.inl rfl) rfl rfl hsh.lt hsh.k (by first | omega | exact hin _ _ | decide | (simp [sv_u, sv_row]; omega) | (simp [sv_u, sv_row]; exact hin _ _) | exact hin1 _ _ | (simp [sv_u, sv_row]; exact hin1 _ _)) ?_
    refine sv_return dX5_fails_20 rfl ?_
    exact ⟨rfl, rfl, rfl, rfl, by first | rw [if_pos (by assumption)] | rw [if_neg (by assumption)]⟩
set_option maxRecDepth 100000 in
set_option maxHeartbeats 4000000 in
theorem c_X5_type {X : sv_X} {S : sv_S} {f : sv_F} {r : sv_R} {g : sv_G} {o : Nat} (hsh : sv_M5 S r o) (h10 : 0 ≤ f o 10 ∧ f o 10 ≤ 80) (a : Int) (ha : sv_in a) : sv_C X 1 MX5_type 0 0 [sv_r o, sv_i a] S f r g (sv_qi (fun b f' => (¬ (0 ≤ a ∧ a ≤ 127) ∧ b = -2 ∧ f' = f) ∨ (0 ≤ a ∧ a ≤ 127 ∧ f o 10 = 80 ∧ b = -4 ∧ f' = f) ∨ (0 ≤ a ∧ a ≤ 127 ∧ f o 10 < 80 ∧ b = f o 10 + 1 ∧ f' = sv_u (sv_u f (o + 7) (f o 10) a) o 10 (f o 10 + 1))) S r g) := by
  refine sv_met (by decide) (by simp [lg_sl, sv_cv, va_rf, Value.category]) ?_
  refine sv_fr fun hin => ?_
  refine sv_iload_n (i := 1) dX5_type_0 rfl rfl ?_
  refine sv_iconst dX5_type_1 ?_
  refine sv_bipush dX5_type_2 (by decide) ?_
  refine sv_sp0 (As := [_, _, _]) clX5_81 dX5_type_4 rfl (Nat.le_of_ble_eq_true rfl) (by decide) (by decide) (c_X5_in _ _ _ ha (by omega) (by omega)) ?_
  refine sv_bif_ne (tgt := 13) dX5_type_7 (by decide) (fun h_7 => ?_) (fun h_7 => ?_)
  · refine sv_aload_n (i := 0) dX5_type_13 rfl rfl ?_
    refine sv_getI (kz := 10) flX5_85 dX5_type_14 rfl rfl hsh.lt hsh.k ?_
    refine sv_bipush dX5_type_17 (by decide) ?_
    refine sv_icmp_ne (tgt := 25) dX5_type_19 (by decide) (by first | omega | exact hin _ _ | decide | (simp [sv_u, sv_row]; omega) | (simp [sv_u, sv_row]; exact hin _ _) | exact hin1 _ _ | (simp [sv_u, sv_row]; exact hin1 _ _)) (by first | omega | exact hin _ _ | decide | (simp [sv_u, sv_row]; omega) | (simp [sv_u, sv_row]; exact hin _ _) | exact hin1 _ _ | (simp [sv_u, sv_row]; exact hin1 _ _)) (fun h_19 => ?_) (fun h_19 => ?_)
    · refine sv_aload_n (i := 0) dX5_type_25 rfl rfl ?_
      refine sv_getR (kz := 9) flX5_28 dX5_type_26 rfl rfl hsh.lt hsh.k hsh.r7 ?_
      refine sv_aload_n (i := 0) dX5_type_29 rfl rfl ?_
      refine sv_getI (kz := 10) flX5_85 dX5_type_30 rfl rfl hsh.lt hsh.k ?_
      refine sv_iload_n (i := 1) dX5_type_33 rfl rfl ?_
      refine sv_iast dX5_type_34 hsh.l7 hsh.s7 (by omega) (by first | omega | exact hin _ _ | decide | (simp [sv_u, sv_row]; omega) | (simp [sv_u, sv_row]; exact hin _ _) | exact hin1 _ _ | (simp [sv_u, sv_row]; exact hin1 _ _)) ?_
      refine sv_aload_n (i := 0) dX5_type_35 rfl rfl ?_
      refine sv_dup dX5_type_36 rfl ?_
      refine sv_getI (kz := 10) flX5_85 dX5_type_37 rfl rfl hsh.lt hsh.k ?_
      refine sv_iconst dX5_type_40 ?_
      refine sv_iadd dX5_type_41 ?_
      refine sv_putI (kz := 10) flX5_85 dX5_type_42 (Or.inl rfl) rfl rfl hsh.lt hsh.k (by first | omega | exact hin _ _ | decide | (simp [sv_u, sv_row]; omega) | (simp [sv_u, sv_row]; exact hin _ _) | exact hin1 _ _ | (simp [sv_u, sv_row]; exact hin1 _ _)) ?_
      refine sv_aload_n (i := 0) dX5_type_45 rfl rfl ?_
      refine sv_getI (kz := 10) flX5_85 dX5_type_46 rfl rfl hsh.lt hsh.k ?_
      refine sv_ireturn dX5_type_49 rfl ?_
      refine ⟨_, rfl, rfl, rfl, rfl, Or.inr (Or.inr ⟨by omega, by omega, by omega, ?_, ?_⟩)⟩
      · simp [sv_u]
      · simp [sv_u_ne]
    · refine sv_bipush dX5_type_22 (by decide) ?_
      refine sv_ireturn dX5_type_24 rfl ?_
      exact ⟨_, rfl, rfl, rfl, rfl, Or.inr (Or.inl ⟨by omega, by omega, by assumption, rfl, rfl⟩)⟩
  · refine sv_bipush dX5_type_10 (by decide) ?_
    refine sv_ireturn dX5_type_12 rfl ?_
    exact ⟨_, rfl, rfl, rfl, rfl, Or.inl ⟨by assumption, rfl, rfl⟩⟩
set_option maxRecDepth 100000 in
set_option maxHeartbeats 4000000 in
theorem c_X5_clear {X : sv_X} {S : sv_S} {f : sv_F} {r : sv_R} {g : sv_G} {o : Nat} (hsh : sv_M5 S r o) : sv_C X 0 MX5_clear 0 0 [sv_r o] S f r g (sv_qi (fun b f' => b = f o 10 ∧ f' = sv_u f o 10 0) S r g) := by
  refine sv_met (by decide) (by simp [lg_sl, sv_cv, va_rf, Value.category]) ?_
  refine sv_fr fun hin => ?_
  refine sv_aload_n (i := 0) dX5_clear_0 rfl rfl ?_
  refine sv_getI (kz := 10) flX5_85 dX5_clear_1 rfl rfl hsh.lt hsh.k ?_
  refine sv_istore_n (i := 1) dX5_clear_4 rfl (by decide) rfl ?_
  refine sv_aload_n (i := 0) dX5_clear_5 rfl rfl ?_
  refine sv_iconst dX5_clear_6 ?_
  refine sv_putI (kz := 10) flX5_85 dX5_clear_7 (Or.inl rfl) rfl rfl hsh.lt hsh.k (by first | omega | exact hin _ _ | decide | (simp [sv_u, sv_row]; omega) | (simp [sv_u, sv_row]; exact hin _ _) | exact hin1 _ _ | (simp [sv_u, sv_row]; exact hin1 _ _)) ?_
  refine sv_iload_n (i := 1) dX5_clear_10 rfl rfl ?_
  refine sv_ireturn dX5_clear_11 rfl ?_
  exact ⟨_, rfl, rfl, rfl, rfl, rfl, rfl⟩
