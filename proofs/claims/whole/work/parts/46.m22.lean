set_option maxRecDepth 100000 in
set_option maxHeartbeats 4000000 in
theorem c_X5_readsCommand {X : sv_X} {S : sv_S} {f : sv_F} {r : sv_R} {g : sv_G} {o : Nat} (hsh : sv_M5 S r o) (h11 : 0 ≤ f o 11 ∧ f o 11 ≤ f o 10) (h10 : f o 10 ≤ 80) (h12 : f o 12 = -1) (h14 : 0 ≤ f o 14 ∧ f o 14 ≤ 19) (hm2 : 1 ≤ f (o + 1) 582 ∧ f (o + 1) 582 ≤ 3) : sv_C X 4 MX5_readsCommand 0 0 [sv_r o] S f r g (sv_qv (fun f' => (∃ (w : Int → Int) (q φ c : Int), f' = sv_u (sp_rc o f w q φ) o 14 c ∧ f o 11 ≤ q ∧ q ≤ f o 10 ∧ φ = sp_cf (f (o + 7)) (f o 10) (6 + 2 * f (o + 1) 582 - 1) (f o 11) ∧ (φ = -1 → c = f o 14 + 1 ∧ q = sp_cn (f (o + 7)) (f o 10) (f o 11) ∧ (∀ j, (j < 4 * f o 14 ∨ 4 * f o 14 + 4 ≤ j) → w j = f (o + 8) j) ∧ w (4 * f o 14) = sp_cw (f (o + 7)) (f o 10) (f o 11) ∧ w (4 * f o 14 + 1) = sp_ca (f (o + 7)) (f o 10) (f o 11) ∧ w (4 * f o 14 + 2) = sp_cb (f (o + 7)) (f o 10) (f o 11) ∧ w (4 * f o 14 + 3) = sp_cc (f (o + 7)) (f o 10) (f o 11)))) S r g) := by
  refine sv_met (by decide) (by simp [lg_sl, sv_cv, va_rf, Value.category]) ?_
  refine sv_fr fun hin => ?_
  have hcw : sp_cw (f (o + 7)) (f o 10) (f o 11) = -1 ∨ sp_cw (f (o + 7)) (f o 10) (f o 11) = 0 ∨ sp_cw (f (o + 7)) (f o 10) (f o 11) = 1 ∨ sp_cw (f (o + 7)) (f o 10) (f o 11) = 2 ∨ sp_cw (f (o + 7)) (f o 10) (f o 11) = 3 ∨ sp_cw (f (o + 7)) (f o 10) (f o 11) = 4 := by
    unfold sp_cw sp_wo; grind
  have f181 : ∀ (w : Int → Int) (q φ : Int), sp_cw (f (o + 7)) (f o 10) (f o 11) ≠ -1 → (f o 11 ≤ q ∧ q ≤ f o 10) → φ = (if sp_cf1 (f (o + 7)) (f o 10) (6 + 2 * f (o + 1) 582 - 1) (f o 11) ≠ -1 then sp_cf1 (f (o + 7)) (f o 10) (6 + 2 * f (o + 1) 582 - 1) (f o 11) else if sp_cf2 (f (o + 7)) (f o 10) (6 + 2 * f (o + 1) 582 - 1) (f o 11) ≠ -1 then sp_cf2 (f (o + 7)) (f o 10) (6 + 2 * f (o + 1) 582 - 1) (f o 11) else sp_cf3 (f (o + 7)) (f o 10) (f o 11)) → (φ = -1 → q = sp_cp4 (f (o + 7)) (f o 10) (f o 11) ∧ w (4 * f o 14 + 1) = sp_ca (f (o + 7)) (f o 10) (f o 11) ∧ w (4 * f o 14 + 2) = sp_cb (f (o + 7)) (f o 10) (f o 11) ∧ w (4 * f o 14 + 3) = sp_cc (f (o + 7)) (f o 10) (f o 11)) → (∀ j, (j < 4 * f o 14 ∨ 4 * f o 14 + 4 ≤ j) → w j = f (o + 8) j) → (w (4 * f o 14) = sp_cw (f (o + 7)) (f o 10) (f o 11)) → sv_T X (sv_rm 4 0 0) MX5_readsCommand (sv_Zm X 0 0 (sv_qv (fun f' => (∃ (w : Int → Int) (q φ c : Int), f' = sv_u (sp_rc o f w q φ) o 14 c ∧ f o 11 ≤ q ∧ q ≤ f o 10 ∧ φ = sp_cf (f (o + 7)) (f o 10) (6 + 2 * f (o + 1) 582 - 1) (f o 11) ∧ (φ = -1 → c = f o 14 + 1 ∧ q = sp_cn (f (o + 7)) (f o 10) (f o 11) ∧ (∀ j, (j < 4 * f o 14 ∨ 4 * f o 14 + 4 ≤ j) → w j = f (o + 8) j) ∧ w (4 * f o 14) = sp_cw (f (o + 7)) (f o 10) (f o 11) ∧ w (4 * f o 14 + 1) = sp_ca (f (o + 7)) (f o 10) (f o 11) ∧ w (4 * f o 14 + 2) = sp_cb (f (o + 7)) (f o 10) (f o 11) ∧ w (4 * f o 14 + 3) = sp_cc (f (o + 7)) (f o 10) (f o 11)))) S r g)) 0 0 181 [some (sv_r o), some (sv_i (f o 11)), some (sv_i (sp_cw (f (o + 7)) (f o 10) (f o 11))), some (sv_i (6 + 2 * f (o + 1) 582 - 1)), some (sv_i (4 * f o 14))] [] S ((sp_rc o f w q φ)) r g := by
    intro w q φ hc hq hφ hz hk hk0
    refine sv_fr fun hin1 => ?_
    have e7 : sp_rc o f w q φ (o + 7) = f (o + 7) := sp_rc_ne (by omega) (by omega)
    have e1 : sp_rc o f w q φ (o + 1) = f (o + 1) := sp_rc_ne (by omega) (by omega)
    have e10 : sp_rc o f w q φ o 10 = f o 10 := sp_rc_o (by omega) (by omega)
    have e14 : sp_rc o f w q φ o 14 = f o 14 := sp_rc_o (by omega) (by omega)
    have e11 : sp_rc o f w q φ o 11 = q := sp_rc_11
    have e12 : sp_rc o f w q φ o 12 = φ := sp_rc_12
    have e8 : sp_rc o f w q φ (o + 8) = w := sp_rc_8
    refine sv_aload_n (i := 0) dX5_readsCommand_181 rfl rfl ?_
    refine sv_vp0 (As := []) clX5_91 dX5_readsCommand_182 ⟨_, rfl, rfl⟩ (by decide) rfl (Nat.le_of_ble_eq_true rfl) (by decide) (by decide) hsh.lt hsh.k (c_X5_next (f := (sp_rc o f w q φ)) hsh (by rw [e10, e11]; omega) (by rw [e10]; exact h10)) ?_
    rw [e7, e10, e11]
    have hnx : sv_in (sp_nx (f (o + 7)) (f o 10) q) := by unfold sp_nx; split <;> first | exact hin _ _ | decide
    refine sv_bipush dX5_readsCommand_185 (by decide) ?_
    refine sv_icmp_ne (tgt := 207) dX5_readsCommand_187 (by decide) hnx (by first | omega | exact hin _ _ | decide | (simp [sv_u, sv_row]; omega) | (simp [sv_u, sv_row]; exact hin _ _) | exact hin1 _ _ | (simp [sv_u, sv_row]; exact hin1 _ _)) (fun h_187 => ?_) (fun h_187 => ?_)
    · refine sv_aload_n (i := 0) dX5_readsCommand_207 rfl rfl ?_
      refine sv_aload_n (i := 0) dX5_readsCommand_208 rfl rfl ?_
      refine sv_getI (kz := 11) flX5_88 dX5_readsCommand_209 rfl rfl hsh.lt hsh.k ?_
      refine sv_vv0 (As := [_]) clX5_101 dX5_readsCommand_212 ⟨_, rfl, rfl⟩ (by decide) rfl (Nat.le_of_ble_eq_true rfl) (by decide) (by decide) hsh.lt hsh.k (c_X5_fails (f := (sp_rc o f w q φ)) hsh _ (by rw [e11]; omega)) (fun f2 hf2 => ?_)
      try rw [e11, e12, sp_rc_u12] at hf2
      try subst hf2
      refine sv_aload_n (i := 0) dX5_readsCommand_215 rfl rfl ?_
      refine sv_dup dX5_readsCommand_216 rfl ?_
      refine sv_getI (kz := 14) flX5_121 dX5_readsCommand_217 rfl rfl hsh.lt hsh.k ?_
      refine sv_iconst dX5_readsCommand_220 ?_
      refine sv_iadd dX5_readsCommand_221 ?_
      refine sv_putI (kz := 14) flX5_121 dX5_readsCommand_222 (Or.inl rfl) rfl rfl hsh.lt hsh.k (by rw [sp_rc_o (by omega) (by omega)]; omega) ?_
      refine sv_return dX5_readsCommand_225 rfl ?_
      first
      | (refine ⟨rfl, rfl, rfl, rfl, w, sp_sk (f (o + 7)) (f o 10) (q + 1), φ, _, rfl, by omega, by omega, ?_, ?_⟩
         · unfold sp_cf; rw [if_neg hc, hφ]; grind
         · intro e
           obtain ⟨z1, z2, z3, z4⟩ := hz e
           exact ⟨by rw [sp_rc_o (by omega) (by omega)], by unfold sp_cn; rw [z1], hk, hk0, z2, z3, z4⟩)
      | (refine ⟨rfl, rfl, rfl, rfl, w, q, (if φ = -1 then q else φ), _, rfl, by omega, by omega, ?_, ?_⟩
         · unfold sp_cf; rw [if_neg hc]; grind
         · intro e; exfalso; split at e <;> omega)
    · have hqL := sp_nx_lt (by assumption : sp_nx (f (o + 7)) (f o 10) q = 59) (by decide)
      refine sv_aload_n (i := 0) dX5_readsCommand_190 rfl rfl ?_
      refine sv_dup dX5_readsCommand_191 rfl ?_
      refine sv_getI (kz := 11) flX5_88 dX5_readsCommand_192 rfl rfl hsh.lt hsh.k ?_
      refine sv_iconst dX5_readsCommand_195 ?_
      refine sv_iadd dX5_readsCommand_196 ?_
      rw [e11]
      refine sv_putI (kz := 11) flX5_88 dX5_readsCommand_197 (Or.inl rfl) rfl rfl hsh.lt hsh.k (by first | omega | exact hin _ _ | decide | (simp [sv_u, sv_row]; omega) | (simp [sv_u, sv_row]; exact hin _ _) | exact hin1 _ _ | (simp [sv_u, sv_row]; exact hin1 _ _)) ?_
      rw [sp_rc_u11]
      have g10 : sp_rc o f w (q + 1) φ o 10 = f o 10 := sp_rc_o (by omega) (by omega)
      have g11 : sp_rc o f w (q + 1) φ o 11 = q + 1 := sp_rc_11
      refine sv_aload_n (i := 0) dX5_readsCommand_200 rfl rfl ?_
      refine sv_vv0 (As := []) clX5_104 dX5_readsCommand_201 ⟨_, rfl, rfl⟩ (by decide) rfl (Nat.le_of_ble_eq_true rfl) (by decide) (by decide) hsh.lt hsh.k (c_X5_skips (f := sp_rc o f w (q + 1) φ) hsh (by rw [g10, g11]; omega) (by rw [g10]; exact h10)) (fun f2 hf2 => ?_)
      rw [sp_rc_ne (by omega) (by omega), g10, g11, sp_rc_u11] at hf2
      subst hf2
      have hb := sp_sk_bd (t := f (o + 7)) (L := f o 10) (p := q + 1) (by omega)
      refine sv_goto (tgt := 215) dX5_readsCommand_204 (by decide) ?_
      try rw [e11, e12, sp_rc_u12] at hf2
      try subst hf2
      refine sv_aload_n (i := 0) dX5_readsCommand_215 rfl rfl ?_
      refine sv_dup dX5_readsCommand_216 rfl ?_
      refine sv_getI (kz := 14) flX5_121 dX5_readsCommand_217 rfl rfl hsh.lt hsh.k ?_
      refine sv_iconst dX5_readsCommand_220 ?_
      refine sv_iadd dX5_readsCommand_221 ?_
      refine sv_putI (kz := 14) flX5_121 dX5_readsCommand_222 (Or.inl rfl) rfl rfl hsh.lt hsh.k (by rw [sp_rc_o (by omega) (by omega)]; omega) ?_
      refine sv_return dX5_readsCommand_225 rfl ?_
      first
      | (refine ⟨rfl, rfl, rfl, rfl, w, sp_sk (f (o + 7)) (f o 10) (q + 1), φ, _, rfl, by omega, by omega, ?_, ?_⟩
         · unfold sp_cf; rw [if_neg hc, hφ]; grind
         · intro e
           obtain ⟨z1, z2, z3, z4⟩ := hz e
           exact ⟨by rw [sp_rc_o (by omega) (by omega)], by unfold sp_cn; rw [z1], hk, hk0, z2, z3, z4⟩)
      | (refine ⟨rfl, rfl, rfl, rfl, w, q, (if φ = -1 then q else φ), _, rfl, by omega, by omega, ?_, ?_⟩
         · unfold sp_cf; rw [if_neg hc]; grind
         · intro e; exfalso; split at e <;> omega)
  have f156 : ∀ (w : Int → Int) (q φ : Int), sp_cw (f (o + 7)) (f o 10) (f o 11) ≠ -1 → (f o 11 ≤ q ∧ q ≤ f o 10) → φ = (if sp_cf1 (f (o + 7)) (f o 10) (6 + 2 * f (o + 1) 582 - 1) (f o 11) ≠ -1 then sp_cf1 (f (o + 7)) (f o 10) (6 + 2 * f (o + 1) 582 - 1) (f o 11) else sp_cf2 (f (o + 7)) (f o 10) (6 + 2 * f (o + 1) 582 - 1) (f o 11)) → (φ = -1 → q = sp_cp3 (f (o + 7)) (f o 10) (f o 11) ∧ w (4 * f o 14 + 1) = sp_ca (f (o + 7)) (f o 10) (f o 11) ∧ w (4 * f o 14 + 2) = sp_cb (f (o + 7)) (f o 10) (f o 11)) → (∀ j, (j < 4 * f o 14 ∨ 4 * f o 14 + 4 ≤ j) → w j = f (o + 8) j) → (w (4 * f o 14) = sp_cw (f (o + 7)) (f o 10) (f o 11)) → sv_T X (sv_rm 4 0 0) MX5_readsCommand (sv_Zm X 0 0 (sv_qv (fun f' => (∃ (w : Int → Int) (q φ c : Int), f' = sv_u (sp_rc o f w q φ) o 14 c ∧ f o 11 ≤ q ∧ q ≤ f o 10 ∧ φ = sp_cf (f (o + 7)) (f o 10) (6 + 2 * f (o + 1) 582 - 1) (f o 11) ∧ (φ = -1 → c = f o 14 + 1 ∧ q = sp_cn (f (o + 7)) (f o 10) (f o 11) ∧ (∀ j, (j < 4 * f o 14 ∨ 4 * f o 14 + 4 ≤ j) → w j = f (o + 8) j) ∧ w (4 * f o 14) = sp_cw (f (o + 7)) (f o 10) (f o 11) ∧ w (4 * f o 14 + 1) = sp_ca (f (o + 7)) (f o 10) (f o 11) ∧ w (4 * f o 14 + 2) = sp_cb (f (o + 7)) (f o 10) (f o 11) ∧ w (4 * f o 14 + 3) = sp_cc (f (o + 7)) (f o 10) (f o 11)))) S r g)) 0 0 156 [some (sv_r o), some (sv_i (f o 11)), some (sv_i (sp_cw (f (o + 7)) (f o 10) (f o 11))), some (sv_i (6 + 2 * f (o + 1) 582 - 1)), some (sv_i (4 * f o 14))] [] S ((sp_rc o f w q φ)) r g := by
    intro w q φ hc hq hφ hz hk hk0
    refine sv_fr fun hin1 => ?_
    have e7 : sp_rc o f w q φ (o + 7) = f (o + 7) := sp_rc_ne (by omega) (by omega)
    have e1 : sp_rc o f w q φ (o + 1) = f (o + 1) := sp_rc_ne (by omega) (by omega)
    have e10 : sp_rc o f w q φ o 10 = f o 10 := sp_rc_o (by omega) (by omega)
    have e14 : sp_rc o f w q φ o 14 = f o 14 := sp_rc_o (by omega) (by omega)
    have e11 : sp_rc o f w q φ o 11 = q := sp_rc_11
    have e12 : sp_rc o f w q φ o 12 = φ := sp_rc_12
    have e8 : sp_rc o f w q φ (o + 8) = w := sp_rc_8
    refine sv_aload_n (i := 0) dX5_readsCommand_156 rfl rfl ?_
    refine sv_getR (kz := 13) flX5_31 dX5_readsCommand_157 rfl rfl hsh.lt hsh.k hsh.r8 ?_
    refine sv_iload dX5_readsCommand_160 rfl ?_
    refine sv_iconst dX5_readsCommand_162 ?_
    refine sv_iadd dX5_readsCommand_163 ?_
    refine sv_iload_n (i := 2) dX5_readsCommand_164 rfl rfl ?_
    refine sv_iconst dX5_readsCommand_165 ?_
    refine sv_icmp_ne (tgt := 179) dX5_readsCommand_166 (by decide) (by first | omega | exact hin _ _ | decide | (simp [sv_u, sv_row]; omega) | (simp [sv_u, sv_row]; exact hin _ _) | exact hin1 _ _ | (simp [sv_u, sv_row]; exact hin1 _ _)) (by first | omega | exact hin _ _ | decide | (simp [sv_u, sv_row]; omega) | (simp [sv_u, sv_row]; exact hin _ _) | exact hin1 _ _ | (simp [sv_u, sv_row]; exact hin1 _ _)) (fun h_166 => ?_) (fun h_166 => ?_)
    · refine sv_iconst dX5_readsCommand_179 ?_
      
      refine sv_iast dX5_readsCommand_180 hsh.l8 hsh.s8 (by omega) (by first | omega | exact hin _ _ | decide | (simp [sv_u, sv_row]; omega) | (simp [sv_u, sv_row]; exact hin _ _) | exact hin1 _ _ | (simp [sv_u, sv_row]; exact hin1 _ _)) ?_
      rw [sp_rc_u8]
      refine f181 _ _ _ hc (by omega) ?_ ?_ ?_ ?_
      · rw [hφ] at *; unfold sp_cf3; grind
      · intro e; unfold sp_cp4 sp_cc sp_up; grind
      · intro j hj; unfold sp_up; rw [if_neg (by omega)]; exact hk j hj
      · unfold sp_up; rw [if_neg (by omega)]; exact hk0
    · refine sv_aload_n (i := 0) dX5_readsCommand_169 rfl rfl ?_
      refine sv_iconst dX5_readsCommand_170 ?_
      refine sv_bipush dX5_readsCommand_171 (by decide) ?_
      refine sv_vi0 (As := [_, _]) clX5_107 dX5_readsCommand_173 ⟨_, rfl, rfl⟩ (by decide) rfl (Nat.le_of_ble_eq_true rfl) (by decide) (by decide) hsh.lt hsh.k (c_X5_number (f := (sp_rc o f w q φ)) hsh (by rw [e10, e11]; omega) (by rw [e10]; exact h10) (0) (99) (by decide) (by decide)) (fun a f2 hf2 => ?_)
      simp only [e7, e10, e11, e12, sp_rc_u11, sp_rc_u12] at hf2
      obtain ⟨q2, φ2, q21, q22, hf2, ha, p1, p2⟩ := hf2
      subst hf2
      refine sv_goto (tgt := 180) dX5_readsCommand_176 (by decide) ?_
      
      refine sv_iast dX5_readsCommand_180 hsh.l8 hsh.s8 (by omega) (by first | omega | exact hin _ _ | decide | (simp [sv_u, sv_row]; omega) | (simp [sv_u, sv_row]; exact hin _ _) | exact hin1 _ _ | (simp [sv_u, sv_row]; exact hin1 _ _)) ?_
      rw [sp_rc_u8]
      refine f181 _ _ _ hc (by omega) ?_ ?_ ?_ ?_
      · rw [hφ] at *; unfold sp_cf3; grind
      · intro e; unfold sp_cp4 sp_cc sp_up; grind
      · intro j hj; unfold sp_up; rw [if_neg (by omega)]; exact hk j hj
      · unfold sp_up; rw [if_neg (by omega)]; exact hk0
  have f98 : ∀ (w : Int → Int) (q φ : Int), sp_cw (f (o + 7)) (f o 10) (f o 11) ≠ -1 → (f o 11 ≤ q ∧ q ≤ f o 10) → φ = sp_cf1 (f (o + 7)) (f o 10) (6 + 2 * f (o + 1) 582 - 1) (f o 11) → (φ = -1 → q = sp_cp2 (f (o + 7)) (f o 10) (f o 11) ∧ w (4 * f o 14 + 1) = sp_ca (f (o + 7)) (f o 10) (f o 11)) → (0 ≤ w (4 * f o 14 + 1) ∧ w (4 * f o 14 + 1) ≤ 99) → (∀ j, (j < 4 * f o 14 ∨ 4 * f o 14 + 4 ≤ j) → w j = f (o + 8) j) → (w (4 * f o 14) = sp_cw (f (o + 7)) (f o 10) (f o 11)) → sv_T X (sv_rm 4 0 0) MX5_readsCommand (sv_Zm X 0 0 (sv_qv (fun f' => (∃ (w : Int → Int) (q φ c : Int), f' = sv_u (sp_rc o f w q φ) o 14 c ∧ f o 11 ≤ q ∧ q ≤ f o 10 ∧ φ = sp_cf (f (o + 7)) (f o 10) (6 + 2 * f (o + 1) 582 - 1) (f o 11) ∧ (φ = -1 → c = f o 14 + 1 ∧ q = sp_cn (f (o + 7)) (f o 10) (f o 11) ∧ (∀ j, (j < 4 * f o 14 ∨ 4 * f o 14 + 4 ≤ j) → w j = f (o + 8) j) ∧ w (4 * f o 14) = sp_cw (f (o + 7)) (f o 10) (f o 11) ∧ w (4 * f o 14 + 1) = sp_ca (f (o + 7)) (f o 10) (f o 11) ∧ w (4 * f o 14 + 2) = sp_cb (f (o + 7)) (f o 10) (f o 11) ∧ w (4 * f o 14 + 3) = sp_cc (f (o + 7)) (f o 10) (f o 11)))) S r g)) 0 0 98 [some (sv_r o), some (sv_i (f o 11)), some (sv_i (sp_cw (f (o + 7)) (f o 10) (f o 11))), some (sv_i (6 + 2 * f (o + 1) 582 - 1)), some (sv_i (4 * f o 14))] [] S ((sp_rc o f w q φ)) r g := by
    intro w q φ hc hq hφ hz hw1 hk hk0
    refine sv_fr fun hin1 => ?_
    have e7 : sp_rc o f w q φ (o + 7) = f (o + 7) := sp_rc_ne (by omega) (by omega)
    have e1 : sp_rc o f w q φ (o + 1) = f (o + 1) := sp_rc_ne (by omega) (by omega)
    have e10 : sp_rc o f w q φ o 10 = f o 10 := sp_rc_o (by omega) (by omega)
    have e14 : sp_rc o f w q φ o 14 = f o 14 := sp_rc_o (by omega) (by omega)
    have e11 : sp_rc o f w q φ o 11 = q := sp_rc_11
    have e12 : sp_rc o f w q φ o 12 = φ := sp_rc_12
    have e8 : sp_rc o f w q φ (o + 8) = w := sp_rc_8
    refine sv_aload_n (i := 0) dX5_readsCommand_98 rfl rfl ?_
    refine sv_getR (kz := 13) flX5_31 dX5_readsCommand_99 rfl rfl hsh.lt hsh.k hsh.r8 ?_
    refine sv_iload dX5_readsCommand_102 rfl ?_
    refine sv_iconst dX5_readsCommand_104 ?_
    refine sv_iadd dX5_readsCommand_105 ?_
    refine sv_iload_n (i := 2) dX5_readsCommand_106 rfl rfl ?_
    refine sv_if_ne (tgt := 120) dX5_readsCommand_107 (by decide) (by first | omega | exact hin _ _ | decide | (simp [sv_u, sv_row]; omega) | (simp [sv_u, sv_row]; exact hin _ _) | exact hin1 _ _ | (simp [sv_u, sv_row]; exact hin1 _ _)) (fun h_107 => ?_) (fun h_107 => ?_)
    · refine sv_iload_n (i := 2) dX5_readsCommand_120 rfl rfl ?_
      refine sv_iconst dX5_readsCommand_121 ?_
      refine sv_icmp_ne (tgt := 132) dX5_readsCommand_122 (by decide) (by first | omega | exact hin _ _ | decide | (simp [sv_u, sv_row]; omega) | (simp [sv_u, sv_row]; exact hin _ _) | exact hin1 _ _ | (simp [sv_u, sv_row]; exact hin1 _ _)) (by first | omega | exact hin _ _ | decide | (simp [sv_u, sv_row]; omega) | (simp [sv_u, sv_row]; exact hin _ _) | exact hin1 _ _ | (simp [sv_u, sv_row]; exact hin1 _ _)) (fun h_122 => ?_) (fun h_122 => ?_)
      · refine sv_aload_n (i := 0) dX5_readsCommand_132 rfl rfl ?_
        refine sv_iload_n (i := 2) dX5_readsCommand_133 rfl rfl ?_
        refine sv_iconst dX5_readsCommand_134 ?_
        refine sv_icmp_ne (tgt := 142) dX5_readsCommand_135 (by decide) (by first | omega | exact hin _ _ | decide | (simp [sv_u, sv_row]; omega) | (simp [sv_u, sv_row]; exact hin _ _) | exact hin1 _ _ | (simp [sv_u, sv_row]; exact hin1 _ _)) (by first | omega | exact hin _ _ | decide | (simp [sv_u, sv_row]; omega) | (simp [sv_u, sv_row]; exact hin _ _) | exact hin1 _ _ | (simp [sv_u, sv_row]; exact hin1 _ _)) (fun h_135 => ?_) (fun h_135 => ?_)
        · refine sv_aload_n (i := 0) dX5_readsCommand_142 rfl rfl ?_
          refine sv_getR (kz := 13) flX5_31 dX5_readsCommand_143 rfl rfl hsh.lt hsh.k hsh.r8 ?_
          refine sv_iload dX5_readsCommand_146 rfl ?_
          refine sv_iconst dX5_readsCommand_148 ?_
          refine sv_iadd dX5_readsCommand_149 ?_
          refine sv_iald dX5_readsCommand_150 hsh.l8 hsh.s8 (by omega) ?_
          try rw [e8]
          refine sv_iload_n (i := 3) dX5_readsCommand_151 rfl rfl ?_
          refine sv_vi0 (As := [_, _]) clX5_107 dX5_readsCommand_152 ⟨_, rfl, rfl⟩ (by decide) rfl (Nat.le_of_ble_eq_true rfl) (by decide) (by decide) hsh.lt hsh.k (c_X5_number (f := (sp_rc o f w q φ)) hsh (by rw [e10, e11]; omega) (by rw [e10]; exact h10) _ _ (by omega) (by omega)) (fun a f2 hf2 => ?_)
          try (simp only [e7, e10, e11, e12, sp_rc_u11, sp_rc_u12] at hf2; obtain ⟨q2, φ2, q21, q22, hf2, ha, p1, p2⟩ := hf2; subst hf2)
          refine sv_iast dX5_readsCommand_155 hsh.l8 hsh.s8 (by omega) (by first | omega | exact hin _ _ | decide | (simp [sv_u, sv_row]; omega) | (simp [sv_u, sv_row]; exact hin _ _) | exact hin1 _ _ | (simp [sv_u, sv_row]; exact hin1 _ _)) ?_
          rw [sp_rc_u8]
          refine f156 _ _ _ hc (by omega) ?_ ?_ ?_ ?_
          · unfold sp_cf2; grind
          · intro e; unfold sp_cp3 sp_cb sp_up; grind
          · intro j hj; unfold sp_up; rw [if_neg (by omega)]; exact hk j hj
          · unfold sp_up; rw [if_neg (by omega)]; exact hk0
        · refine sv_iconst dX5_readsCommand_138 ?_
          refine sv_goto (tgt := 151) dX5_readsCommand_139 (by decide) ?_
          try rw [e8]
          refine sv_iload_n (i := 3) dX5_readsCommand_151 rfl rfl ?_
          refine sv_vi0 (As := [_, _]) clX5_107 dX5_readsCommand_152 ⟨_, rfl, rfl⟩ (by decide) rfl (Nat.le_of_ble_eq_true rfl) (by decide) (by decide) hsh.lt hsh.k (c_X5_number (f := (sp_rc o f w q φ)) hsh (by rw [e10, e11]; omega) (by rw [e10]; exact h10) _ _ (by omega) (by omega)) (fun a f2 hf2 => ?_)
          try (simp only [e7, e10, e11, e12, sp_rc_u11, sp_rc_u12] at hf2; obtain ⟨q2, φ2, q21, q22, hf2, ha, p1, p2⟩ := hf2; subst hf2)
          refine sv_iast dX5_readsCommand_155 hsh.l8 hsh.s8 (by omega) (by first | omega | exact hin _ _ | decide | (simp [sv_u, sv_row]; omega) | (simp [sv_u, sv_row]; exact hin _ _) | exact hin1 _ _ | (simp [sv_u, sv_row]; exact hin1 _ _)) ?_
          rw [sp_rc_u8]
          refine f156 _ _ _ hc (by omega) ?_ ?_ ?_ ?_
          · unfold sp_cf2; grind
          · intro e; unfold sp_cp3 sp_cb sp_up; grind
          · intro j hj; unfold sp_up; rw [if_neg (by omega)]; exact hk j hj
          · unfold sp_up; rw [if_neg (by omega)]; exact hk0
      · refine sv_aload_n (i := 0) dX5_readsCommand_125 rfl rfl ?_
        refine sv_vi0 (As := []) clX5_124 dX5_readsCommand_126 ⟨_, rfl, rfl⟩ (by decide) rfl (Nat.le_of_ble_eq_true rfl) (by decide) (by decide) hsh.lt hsh.k (c_X5_amount (f := (sp_rc o f w q φ)) hsh (by rw [e10, e11]; omega) (by rw [e10]; exact h10)) (fun a f2 hf2 => ?_)
        simp only [e7, e10, e11, e12, sp_rc_u11, sp_rc_u12] at hf2
        obtain ⟨q2, φ2, q21, q22, hf2, ha, p1, p2⟩ := hf2
        subst hf2
        refine sv_goto (tgt := 155) dX5_readsCommand_129 (by decide) ?_
        try (simp only [e7, e10, e11, e12, sp_rc_u11, sp_rc_u12] at hf2; obtain ⟨q2, φ2, q21, q22, hf2, ha, p1, p2⟩ := hf2; subst hf2)
        refine sv_iast dX5_readsCommand_155 hsh.l8 hsh.s8 (by omega) (by first | omega | exact hin _ _ | decide | (simp [sv_u, sv_row]; omega) | (simp [sv_u, sv_row]; exact hin _ _) | exact hin1 _ _ | (simp [sv_u, sv_row]; exact hin1 _ _)) ?_
        rw [sp_rc_u8]
        refine f156 _ _ _ hc (by omega) ?_ ?_ ?_ ?_
        · unfold sp_cf2; grind
        · intro e; unfold sp_cp3 sp_cb sp_up; grind
        · intro j hj; unfold sp_up; rw [if_neg (by omega)]; exact hk j hj
        · unfold sp_up; rw [if_neg (by omega)]; exact hk0
    · refine sv_aload_n (i := 0) dX5_readsCommand_110 rfl rfl ?_
      refine sv_iconst dX5_readsCommand_111 ?_
      refine sv_bipush dX5_readsCommand_112 (by decide) ?_
      refine sv_vi0 (As := [_, _]) clX5_107 dX5_readsCommand_114 ⟨_, rfl, rfl⟩ (by decide) rfl (Nat.le_of_ble_eq_true rfl) (by decide) (by decide) hsh.lt hsh.k (c_X5_number (f := (sp_rc o f w q φ)) hsh (by rw [e10, e11]; omega) (by rw [e10]; exact h10) (0) (99) (by decide) (by decide)) (fun a f2 hf2 => ?_)
      simp only [e7, e10, e11, e12, sp_rc_u11, sp_rc_u12] at hf2
      obtain ⟨q2, φ2, q21, q22, hf2, ha, p1, p2⟩ := hf2
      subst hf2
      refine sv_goto (tgt := 155) dX5_readsCommand_117 (by decide) ?_
      try (simp only [e7, e10, e11, e12, sp_rc_u11, sp_rc_u12] at hf2; obtain ⟨q2, φ2, q21, q22, hf2, ha, p1, p2⟩ := hf2; subst hf2)
      refine sv_iast dX5_readsCommand_155 hsh.l8 hsh.s8 (by omega) (by first | omega | exact hin _ _ | decide | (simp [sv_u, sv_row]; omega) | (simp [sv_u, sv_row]; exact hin _ _) | exact hin1 _ _ | (simp [sv_u, sv_row]; exact hin1 _ _)) ?_
      rw [sp_rc_u8]
      refine f156 _ _ _ hc (by omega) ?_ ?_ ?_ ?_
      · unfold sp_cf2; grind
      · intro e; unfold sp_cp3 sp_cb sp_up; grind
      · intro j hj; unfold sp_up; rw [if_neg (by omega)]; exact hk j hj
      · unfold sp_up; rw [if_neg (by omega)]; exact hk0
  have f49 : sp_cw (f (o + 7)) (f o 10) (f o 11) ≠ -1 → sv_T X (sv_rm 4 0 0) MX5_readsCommand (sv_Zm X 0 0 (sv_qv (fun f' => (∃ (w : Int → Int) (q φ c : Int), f' = sv_u (sp_rc o f w q φ) o 14 c ∧ f o 11 ≤ q ∧ q ≤ f o 10 ∧ φ = sp_cf (f (o + 7)) (f o 10) (6 + 2 * f (o + 1) 582 - 1) (f o 11) ∧ (φ = -1 → c = f o 14 + 1 ∧ q = sp_cn (f (o + 7)) (f o 10) (f o 11) ∧ (∀ j, (j < 4 * f o 14 ∨ 4 * f o 14 + 4 ≤ j) → w j = f (o + 8) j) ∧ w (4 * f o 14) = sp_cw (f (o + 7)) (f o 10) (f o 11) ∧ w (4 * f o 14 + 1) = sp_ca (f (o + 7)) (f o 10) (f o 11) ∧ w (4 * f o 14 + 2) = sp_cb (f (o + 7)) (f o 10) (f o 11) ∧ w (4 * f o 14 + 3) = sp_cc (f (o + 7)) (f o 10) (f o 11)))) S r g)) 0 0 49 [some (sv_r o), some (sv_i (f o 11)), some (sv_i (sp_cw (f (o + 7)) (f o 10) (f o 11))), none, none] [] S ((sp_rc o f (f (o + 8)) (sp_lt (f (o + 7)) (f o 10) (f o 11)) (-1))) r g := by
    intro hc
    refine sv_fr fun hin1 => ?_
    have e7 : (sp_rc o f (f (o + 8)) (sp_lt (f (o + 7)) (f o 10) (f o 11)) (-1)) (o + 7) = f (o + 7) := sp_rc_ne (by omega) (by omega)
    have e1 : (sp_rc o f (f (o + 8)) (sp_lt (f (o + 7)) (f o 10) (f o 11)) (-1)) (o + 1) = f (o + 1) := sp_rc_ne (by omega) (by omega)
    have e10 : (sp_rc o f (f (o + 8)) (sp_lt (f (o + 7)) (f o 10) (f o 11)) (-1)) o 10 = f o 10 := sp_rc_o (by omega) (by omega)
    have e14 : (sp_rc o f (f (o + 8)) (sp_lt (f (o + 7)) (f o 10) (f o 11)) (-1)) o 14 = f o 14 := sp_rc_o (by omega) (by omega)
    have e11 : (sp_rc o f (f (o + 8)) (sp_lt (f (o + 7)) (f o 10) (f o 11)) (-1)) o 11 = (sp_lt (f (o + 7)) (f o 10) (f o 11)) := sp_rc_11
    have e12 : (sp_rc o f (f (o + 8)) (sp_lt (f (o + 7)) (f o 10) (f o 11)) (-1)) o 12 = -1 := sp_rc_12
    have hlt := sp_lt_bd (t := f (o + 7)) h11.2
    refine sv_aload_n (i := 0) dX5_readsCommand_49 rfl rfl ?_
    refine sv_vv0 (As := []) clX5_104 dX5_readsCommand_50 ⟨_, rfl, rfl⟩ (by decide) rfl (Nat.le_of_ble_eq_true rfl) (by decide) (by decide) hsh.lt hsh.k (c_X5_skips (f := (sp_rc o f (f (o + 8)) (sp_lt (f (o + 7)) (f o 10) (f o 11)) (-1))) hsh (by rw [e10, e11]; omega) (by rw [e10]; exact h10)) (fun f2 hf2 => ?_)
    rw [e7, e10, e11, sp_rc_u11] at hf2
    subst hf2
    have hp1 := sp_sk_bd (t := f (o + 7)) hlt.2
    clear e7 e1 e10 e14 e11 e12
    rw [show sp_sk (f (o + 7)) (f o 10) (sp_lt (f (o + 7)) (f o 10) (f o 11)) = sp_cp1 (f (o + 7)) (f o 10) (f o 11) from rfl] at *
    have e7 : (sp_rc o f (f (o + 8)) (sp_cp1 (f (o + 7)) (f o 10) (f o 11)) (-1)) (o + 7) = f (o + 7) := sp_rc_ne (by omega) (by omega)
    have e1 : (sp_rc o f (f (o + 8)) (sp_cp1 (f (o + 7)) (f o 10) (f o 11)) (-1)) (o + 1) = f (o + 1) := sp_rc_ne (by omega) (by omega)
    have e10 : (sp_rc o f (f (o + 8)) (sp_cp1 (f (o + 7)) (f o 10) (f o 11)) (-1)) o 10 = f o 10 := sp_rc_o (by omega) (by omega)
    have e14 : (sp_rc o f (f (o + 8)) (sp_cp1 (f (o + 7)) (f o 10) (f o 11)) (-1)) o 14 = f o 14 := sp_rc_o (by omega) (by omega)
    have e11 : (sp_rc o f (f (o + 8)) (sp_cp1 (f (o + 7)) (f o 10) (f o 11)) (-1)) o 11 = (sp_cp1 (f (o + 7)) (f o 10) (f o 11)) := sp_rc_11
    have e12 : (sp_rc o f (f (o + 8)) (sp_cp1 (f (o + 7)) (f o 10) (f o 11)) (-1)) o 12 = -1 := sp_rc_12
    have hlt := sp_lt_bd (t := f (o + 7)) h11.2
    refine sv_aload_n (i := 0) dX5_readsCommand_53 rfl rfl ?_
    refine sv_getR (kz := 0) flX5_7 dX5_readsCommand_54 rfl rfl hsh.lt hsh.k hsh.r1 ?_
    refine sv_sipush dX5_readsCommand_57 (by decide) ?_
    refine sv_iald dX5_readsCommand_60 hsh.l1 hsh.s1 (by omega) ?_
    rw [e1]
    refine sv_sp0 (As := [_]) clX5_52 dX5_readsCommand_61 rfl (Nat.le_of_ble_eq_true rfl) (by decide) (by decide) (c_X5_valuesOf _) ?_
    refine sv_iconst dX5_readsCommand_64 ?_
    refine sv_isub dX5_readsCommand_65 ?_
    refine sv_istore_n (i := 3) dX5_readsCommand_66 rfl (by decide) rfl ?_
    refine sv_iconst dX5_readsCommand_67 ?_
    refine sv_aload_n (i := 0) dX5_readsCommand_68 rfl rfl ?_
    refine sv_getI (kz := 14) flX5_121 dX5_readsCommand_69 rfl rfl hsh.lt hsh.k ?_
    rw [e14]
    refine sv_imul dX5_readsCommand_72 ?_
    refine sv_istore dX5_readsCommand_73 (by decide) rfl ?_
    refine sv_aload_n (i := 0) dX5_readsCommand_75 rfl rfl ?_
    refine sv_getR (kz := 13) flX5_31 dX5_readsCommand_76 rfl rfl hsh.lt hsh.k hsh.r8 ?_
    refine sv_iload dX5_readsCommand_79 rfl ?_
    refine sv_iload_n (i := 2) dX5_readsCommand_81 rfl rfl ?_
    refine sv_iast dX5_readsCommand_82 hsh.l8 hsh.s8 (by omega) (by first | omega | exact hin _ _ | decide | (simp [sv_u, sv_row]; omega) | (simp [sv_u, sv_row]; exact hin _ _) | exact hin1 _ _ | (simp [sv_u, sv_row]; exact hin1 _ _)) ?_
    rw [sp_rc_u8]
    clear e7 e1 e10 e14 e11 e12
    have e7 : (sp_rc o f (sp_up (f (o + 8)) (4 * f o 14) (sp_cw (f (o + 7)) (f o 10) (f o 11))) (sp_cp1 (f (o + 7)) (f o 10) (f o 11)) (-1)) (o + 7) = f (o + 7) := sp_rc_ne (by omega) (by omega)
    have e1 : (sp_rc o f (sp_up (f (o + 8)) (4 * f o 14) (sp_cw (f (o + 7)) (f o 10) (f o 11))) (sp_cp1 (f (o + 7)) (f o 10) (f o 11)) (-1)) (o + 1) = f (o + 1) := sp_rc_ne (by omega) (by omega)
    have e10 : (sp_rc o f (sp_up (f (o + 8)) (4 * f o 14) (sp_cw (f (o + 7)) (f o 10) (f o 11))) (sp_cp1 (f (o + 7)) (f o 10) (f o 11)) (-1)) o 10 = f o 10 := sp_rc_o (by omega) (by omega)
    have e14 : (sp_rc o f (sp_up (f (o + 8)) (4 * f o 14) (sp_cw (f (o + 7)) (f o 10) (f o 11))) (sp_cp1 (f (o + 7)) (f o 10) (f o 11)) (-1)) o 14 = f o 14 := sp_rc_o (by omega) (by omega)
    have e11 : (sp_rc o f (sp_up (f (o + 8)) (4 * f o 14) (sp_cw (f (o + 7)) (f o 10) (f o 11))) (sp_cp1 (f (o + 7)) (f o 10) (f o 11)) (-1)) o 11 = (sp_cp1 (f (o + 7)) (f o 10) (f o 11)) := sp_rc_11
    have e12 : (sp_rc o f (sp_up (f (o + 8)) (4 * f o 14) (sp_cw (f (o + 7)) (f o 10) (f o 11))) (sp_cp1 (f (o + 7)) (f o 10) (f o 11)) (-1)) o 12 = -1 := sp_rc_12
    have hlt := sp_lt_bd (t := f (o + 7)) h11.2
    refine sv_aload_n (i := 0) dX5_readsCommand_83 rfl rfl ?_
    refine sv_getR (kz := 13) flX5_31 dX5_readsCommand_84 rfl rfl hsh.lt hsh.k hsh.r8 ?_
    refine sv_iload dX5_readsCommand_87 rfl ?_
    refine sv_iconst dX5_readsCommand_89 ?_
    refine sv_iadd dX5_readsCommand_90 ?_
    refine sv_aload_n (i := 0) dX5_readsCommand_91 rfl rfl ?_
    refine sv_iconst dX5_readsCommand_92 ?_
    refine sv_iload_n (i := 3) dX5_readsCommand_93 rfl rfl ?_
    refine sv_vi0 (As := [_, _]) clX5_107 dX5_readsCommand_94 ⟨_, rfl, rfl⟩ (by decide) rfl (Nat.le_of_ble_eq_true rfl) (by decide) (by decide) hsh.lt hsh.k (c_X5_number (f := (sp_rc o f (sp_up (f (o + 8)) (4 * f o 14) (sp_cw (f (o + 7)) (f o 10) (f o 11))) (sp_cp1 (f (o + 7)) (f o 10) (f o 11)) (-1))) hsh (by rw [e10, e11]; omega) (by rw [e10]; exact h10) 0 _ (by decide) (by omega)) (fun a f2 hf2 => ?_)
    simp only [e7, e10, e11, e12, sp_rc_u11, sp_rc_u12] at hf2
    obtain ⟨q2, φ2, q21, q22, hf2, ha, p1, p2⟩ := hf2
    subst hf2
    obtain ⟨p3, p4⟩ := p2 (by trivial)
    refine sv_iast dX5_readsCommand_97 hsh.l8 hsh.s8 (by omega) (by first | omega | exact hin _ _ | decide | (simp [sv_u, sv_row]; omega) | (simp [sv_u, sv_row]; exact hin _ _) | exact hin1 _ _ | (simp [sv_u, sv_row]; exact hin1 _ _)) ?_
    rw [sp_rc_u8]
    refine f98 _ _ _ hc (by omega) ?_ ?_ ?_ ?_ ?_
    · rw [p3]; rfl
    · intro e; obtain ⟨y1, y2⟩ := p4 e; exact ⟨by rw [y2]; rfl, by simp [sp_up, y1, sp_ca]⟩
    · simp [sp_up]; exact ha
    · intro j hj; unfold sp_up; rw [if_neg (by omega), if_neg (by omega)]
    · unfold sp_up; rw [if_neg (by omega), if_pos rfl]
  have lp : ∀ (k : Nat) (q : Int), f o 10 - q < (k : Int) → (f o 11 ≤ q ∧ q ≤ f o 10) → (sp_lt (f (o + 7)) (f o 10) q = sp_lt (f (o + 7)) (f o 10) (f o 11)) → sv_T X (sv_rm 4 0 0) MX5_readsCommand (sv_Zm X 0 0 (sv_qv (fun f' => (∃ (w : Int → Int) (q φ c : Int), f' = sv_u (sp_rc o f w q φ) o 14 c ∧ f o 11 ≤ q ∧ q ≤ f o 10 ∧ φ = sp_cf (f (o + 7)) (f o 10) (6 + 2 * f (o + 1) 582 - 1) (f o 11) ∧ (φ = -1 → c = f o 14 + 1 ∧ q = sp_cn (f (o + 7)) (f o 10) (f o 11) ∧ (∀ j, (j < 4 * f o 14 ∨ 4 * f o 14 + 4 ≤ j) → w j = f (o + 8) j) ∧ w (4 * f o 14) = sp_cw (f (o + 7)) (f o 10) (f o 11) ∧ w (4 * f o 14 + 1) = sp_ca (f (o + 7)) (f o 10) (f o 11) ∧ w (4 * f o 14 + 2) = sp_cb (f (o + 7)) (f o 10) (f o 11) ∧ w (4 * f o 14 + 3) = sp_cc (f (o + 7)) (f o 10) (f o 11)))) S r g)) 0 0 5 [some (sv_r o), some (sv_i (f o 11)), none, none, none] [] S ((sp_rc o f (f (o + 8)) q (-1))) r g := by
    intro k
    induction k with
    | zero =>
      intro q hk h1 h2
      exact absurd hk (by omega)
    | succ k ih =>
      intro q hk h1 h2
      refine sv_fr fun hin1 => ?_
      have e7 : (sp_rc o f (f (o + 8)) q (-1)) (o + 7) = f (o + 7) := sp_rc_ne (by omega) (by omega)
      have e1 : (sp_rc o f (f (o + 8)) q (-1)) (o + 1) = f (o + 1) := sp_rc_ne (by omega) (by omega)
      have e10 : (sp_rc o f (f (o + 8)) q (-1)) o 10 = f o 10 := sp_rc_o (by omega) (by omega)
      have e14 : (sp_rc o f (f (o + 8)) q (-1)) o 14 = f o 14 := sp_rc_o (by omega) (by omega)
      have e11 : (sp_rc o f (f (o + 8)) q (-1)) o 11 = q := sp_rc_11
      have e12 : (sp_rc o f (f (o + 8)) q (-1)) o 12 = -1 := sp_rc_12
      refine sv_aload_n (i := 0) dX5_readsCommand_5 rfl rfl ?_
      refine sv_vp0 (As := []) clX5_91 dX5_readsCommand_6 ⟨_, rfl, rfl⟩ (by decide) rfl (Nat.le_of_ble_eq_true rfl) (by decide) (by decide) hsh.lt hsh.k (c_X5_next (f := sp_rc o f (f (o + 8)) q (-1)) hsh (by rw [e10, e11]; omega) (by rw [e10]; exact h10)) ?_
      rw [e7, e10, e11]
      have hnx : sv_in (sp_nx (f (o + 7)) (f o 10) q) := by unfold sp_nx; split <;> first | exact hin _ _ | decide
      refine sv_bipush dX5_readsCommand_9 (by decide) ?_
      refine sv_bipush dX5_readsCommand_11 (by decide) ?_
      refine sv_sp0 (As := [_, _, _]) clX5_81 dX5_readsCommand_13 rfl (Nat.le_of_ble_eq_true rfl) (by decide) (by decide) (c_X5_in _ _ _ hnx (by decide) (by decide)) ?_
      refine sv_bif_eq (tgt := 32) dX5_readsCommand_16 (by decide) (fun h_16 => ?_) (fun h_16 => ?_)
      · have hql : q = (sp_lt (f (o + 7)) (f o 10) (f o 11)) := by rw [← h2, sp_lt_end (by assumption)]
        refine sv_aload_n (i := 0) dX5_readsCommand_32 rfl rfl ?_
        refine sv_iload_n (i := 1) dX5_readsCommand_33 rfl rfl ?_
        refine sv_vp0 (As := [_]) clX5_118 dX5_readsCommand_34 ⟨_, rfl, rfl⟩ (by decide) rfl (Nat.le_of_ble_eq_true rfl) (by decide) (by decide) hsh.lt hsh.k (c_X5_wordOf (f := sp_rc o f (f (o + 8)) q (-1)) hsh (by rw [e10, e11]; omega) (by rw [e10]; exact h10) (f o 11) (by rw [e11]; omega)) ?_
        rw [e7, e11, show sp_wo (f (o + 7)) (f o 11) q = sp_cw (f (o + 7)) (f o 10) (f o 11) by unfold sp_cw; rw [← hql]]
        refine sv_istore_n (i := 2) dX5_readsCommand_37 rfl (by decide) rfl ?_
        refine sv_iload_n (i := 2) dX5_readsCommand_38 rfl rfl ?_
        refine sv_iconst dX5_readsCommand_39 ?_
        refine sv_icmp_ne (tgt := 49) dX5_readsCommand_40 (by decide) (by omega) (by omega) (fun h_40 => ?_) (fun h_40 => ?_)
        · exact sv_wk (f49 (by assumption)) (by simp [sv_sub, sv_ent, sv_lng]) (by rw [hql])
        · refine sv_aload_n (i := 0) dX5_readsCommand_43 rfl rfl ?_
          refine sv_iload_n (i := 1) dX5_readsCommand_44 rfl rfl ?_
          refine sv_vv0 (As := [_]) clX5_101 dX5_readsCommand_45 ⟨_, rfl, rfl⟩ (by decide) rfl (Nat.le_of_ble_eq_true rfl) (by decide) (by decide) hsh.lt hsh.k (c_X5_fails (f := sp_rc o f (f (o + 8)) q (-1)) hsh _ (hin _ _)) (fun f2 hf2 => ?_)
          rw [e12, if_pos rfl, sp_rc_u12] at hf2
          subst hf2
          refine sv_return dX5_readsCommand_48 rfl ?_
          refine ⟨rfl, rfl, rfl, rfl, f (o + 8), q, f o 11, f o 14, sv_u_self (sp_rc_o (by omega) (by omega)), by omega, by omega, ?_, fun e => ?_⟩
          · unfold sp_cf; rw [if_pos (by assumption)]
          · exfalso; omega
      · have hqL := sp_nx_lt (t := f (o + 7)) (L := f o 10) (p := q) rfl (by omega)
        refine sv_aload_n (i := 0) dX5_readsCommand_19 rfl rfl ?_
        refine sv_dup dX5_readsCommand_20 rfl ?_
        refine sv_getI (kz := 11) flX5_88 dX5_readsCommand_21 rfl rfl hsh.lt hsh.k ?_
        rw [e11]
        refine sv_iconst dX5_readsCommand_24 ?_
        refine sv_iadd dX5_readsCommand_25 ?_
        refine sv_putI (kz := 11) flX5_88 dX5_readsCommand_26 (Or.inl rfl) rfl rfl hsh.lt hsh.k (by first | omega | exact hin _ _ | decide | (simp [sv_u, sv_row]; omega) | (simp [sv_u, sv_row]; exact hin _ _) | exact hin1 _ _ | (simp [sv_u, sv_row]; exact hin1 _ _)) ?_
        refine sv_goto (tgt := 5) dX5_readsCommand_29 (by decide) ?_
        rw [sp_rc_u11]
        refine ih (q + 1) (by omega) (by omega) ?_
        rw [← h2, sp_lt_on h_16]
  refine sv_aload_n (i := 0) dX5_readsCommand_0 rfl rfl ?_
  refine sv_getI (kz := 11) flX5_88 dX5_readsCommand_1 rfl rfl hsh.lt hsh.k ?_
  refine sv_istore_n (i := 1) dX5_readsCommand_4 rfl (by decide) rfl ?_
  exact sv_cast (lp (f o 10 + 1).toNat (f o 11) (by omega) (by omega) rfl) rfl rfl rfl rfl rfl (by rw [← h12]; exact sp_rc_id)
