section SPCAUSE
variable {m : Int → Int}
theorem sp_lk_at (hw : sp_wt m) {n : Int} (hn : 0 ≤ n) : ∃ L : Nat, sp_lk m n = L ∧ sp_ch m n L = -1 ∧ ∀ j : Nat, j < L → sp_ch m n j ≠ -1 := by
  have hmin : ∀ L : Nat, (∃ k : Nat, k ≤ L ∧ sp_ch m n k = -1) → ∃ k : Nat, sp_ch m n k = -1 ∧ ∀ j : Nat, j < k → sp_ch m n j ≠ -1 := by
    intro L
    induction L with
    | zero => rintro ⟨k, hk, h⟩; exact ⟨k, h, fun j hj => by omega⟩
    | succ L ih =>
      rintro ⟨k, hk, h⟩
      by_cases h2 : ∃ k : Nat, k ≤ L ∧ sp_ch m n k = -1
      · exact ih h2
      · exact ⟨k, h, fun j hj q => h2 ⟨j, by omega, q⟩⟩
  have hex : ∃ k : Nat, k ≤ 21 ∧ sp_ch m n k = -1 := by
    by_cases h : ∃ k : Nat, k ≤ 21 ∧ sp_ch m n k = -1
    · exact h
    · have := sp_ch_21 hw (n := n) (L := 22) fun k hk q => h ⟨k, by omega, q⟩
      omega
  obtain ⟨L, h1, h2⟩ := hmin 21 hex
  exact ⟨L, sp_lk_eq (sp_ch_21 hw h2) h2 h1, h1, h2⟩
theorem sp_bs_none (hw : sp_wt m) : sp_bs m (-1) = -1 := by
  by_cases h : sp_bs m (-1) = -1
  · exact h
  · obtain ⟨-, b, c⟩ := sp_bs_lt hw h
    omega
theorem sp_R_up (hw : sp_wt m) {n : Int} (h : sp_R m n = -1) : sp_bs m n = -1 ∨ sp_R m (sp_bs m n) = -1 := by
  by_cases h1 : sp_bs m n = -1
  · exact Or.inl h1
  · by_cases h2 : sp_R m (sp_bs m n) = -1
    · exact Or.inr h2
    · have := sp_R_bad hw (sp_bs_lt hw h1).1 h1 h2
      omega
theorem sp_R_2 (hw : sp_wt m) {n : Int} (h : sp_R m n = 2) : sp_bs m n ≠ -1 ∧ sp_R m (sp_bs m n) ≠ -1 := by
  by_cases h0 : sp_slot m n = -1
  · have := sp_R_lost hw h0; omega
  · by_cases h1 : sp_bs m n = -1
    · have := (sp_V_whole hw h0 h1).2; rw [h] at this; split at this <;> omega
    · by_cases h2 : sp_R m (sp_bs m n) = -1
      · have := (sp_V_diff hw h0 h1 h2).2; rw [h] at this; split at this <;> omega
      · exact ⟨h1, h2⟩
theorem sp_R_n2 (hw : sp_wt m) {n : Int} (h : sp_R m n ≠ 2) : sp_bs m n = -1 ∨ sp_R m (sp_bs m n) = -1 := by
  by_cases h1 : sp_bs m n = -1
  · exact Or.inl h1
  · by_cases h2 : sp_R m (sp_bs m n) = -1
    · exact Or.inr h2
    · exact absurd (sp_R_bad hw (sp_bs_lt hw h1).1 h1 h2) h
theorem sp_ch_n2 (hw : sp_wt m) {k : Int} {j : Nat} (h : sp_R m (sp_ch m k j) ≠ 2) : ∀ t : Nat, sp_ch m k (j + 1 + t) = -1 ∨ sp_R m (sp_ch m k (j + 1 + t)) = -1 := by
  intro t
  induction t with
  | zero => exact sp_R_n2 hw h
  | succ t ih =>
    rcases ih with h1 | h1
    · left
      show sp_bs m (sp_ch m k (j + 1 + t)) = -1
      rw [h1]; exact sp_bs_none hw
    · exact sp_R_up hw h1
end SPCAUSE
set_option maxRecDepth 100000 in
set_option maxHeartbeats 4000000 in
theorem c_X4_causeOf {X : sv_X} {S : sv_S} {f : sv_F} {r : sv_R} {g : sv_G} {V q d fo rs fi se pa sc : Nat} {kp fd : Int → Nat} {m : Int → Int} (hve : sv_K4 S r V q d fi se pa sc) (hmo : sv_K1 S r q kp) (hmv : sv_V1 f q kp m) (hre : sv_K2 S r d fo rs fd) (hw : sp_wt m) (hv2 : sv_V2 f rs fd m (m 580)) (k d2 w : Int) (hk : 0 ≤ k ∧ k < m 581) (hd2 : 0 ≤ d2 ∧ d2 ≤ 2147483647) (hw1 : 0 ≤ w ∧ w ≤ 1) : sv_C X 2 MX4_causeOf 0 0 [sv_r V, sv_i k, sv_i d2, sv_i w] S f r g (sv_qp (some (sv_i (sp_cau m k d2 w))) S f r g) := by
  refine sv_met (by decide) (by simp [lg_sl, sv_cv, va_rf, Value.category]) ?_
  refine sv_fr fun hin => ?_
  have hcc := hw.c
  have hcm := hw.cm
  have lp : ∀ (kk : Nat) (j : Nat), d2 - (j : Int) < (kk : Int) → ((j : Int) ≤ d2) → (∀ i : Nat, i < j → sp_R m (sp_ch m k i) = 2) → sv_T X (sv_rm 2 0 0) MX4_causeOf (sv_Zm X 0 0 (sv_qp (some (sv_i (sp_cau m k d2 w))) S f r g)) 0 0 14 [some (sv_r V), some (sv_i k), some (sv_i d2), some (sv_i w), some (sv_i (sp_ch m k j)), some (sv_i (j : Nat))] [] S (f) r g := by
    intro kk
    induction kk with
    | zero =>
      intro j hkk h1 h2
      exact absurd hkk (by omega)
    | succ kk ih =>
      intro j hkk h1 h2
      have hcr : sv_in (sp_ch m k j) := by
        cases j with
        | zero => show sv_in k; omega
        | succ j => have := sp_bs_cm hw (x := sp_ch m k j); show sv_in (sp_bs m (sp_ch m k j)); omega
      have hRb := sp_R_in hw (n := sp_ch m k j)
      have hne : ∀ i : Nat, i ≤ j → sp_ch m k i ≠ -1 := by
        intro i hi
        cases i with
        | zero => show k ≠ -1; omega
        | succ i => exact (sp_R_2 hw (h2 i (by omega))).1
      have hR1 : 0 < j → sp_R m (sp_ch m k j) ≠ -1 := by
        intro hj
        obtain ⟨i, rfl⟩ : ∃ i, j = i + 1 := ⟨j - 1, by omega⟩
        exact (sp_R_2 hw (h2 i (by omega))).2
      refine sv_iload dX4_causeOf_14 rfl ?_
      refine sv_iload_n (i := 2) dX4_causeOf_16 rfl rfl ?_
      refine sv_icmp_ge (tgt := 49) dX4_causeOf_17 (by decide) (by first | omega | exact hin _ _ | decide | (simp [sv_u, sv_row]; omega) | (simp [sv_u, sv_row]; exact hin _ _) | exact hin1 _ _ | (simp [sv_u, sv_row]; exact hin1 _ _)) (by first | omega | exact hin _ _ | decide | (simp [sv_u, sv_row]; omega) | (simp [sv_u, sv_row]; exact hin _ _) | exact hin1 _ _ | (simp [sv_u, sv_row]; exact hin1 _ _)) (fun h_17 => ?_) (fun h_17 => ?_)
      · refine sv_aload_n (i := 0) dX4_causeOf_49 rfl rfl ?_
        refine sv_iload dX4_causeOf_50 rfl ?_
        refine sv_vp0 (As := [_]) clX4_215 dX4_causeOf_52 ⟨_, rfl, rfl⟩ (by decide) rfl (Nat.le_of_ble_eq_true rfl) (by decide) (by decide) hve.lt hve.k (c_X4_reasonOf hve hmo hmv hre hw hv2 _ hcr) ?_
        refine sv_istore dX4_causeOf_55 (by decide) rfl ?_
        refine sv_iload dX4_causeOf_57 rfl ?_
        refine sv_iconst dX4_causeOf_59 ?_
        refine sv_icmp_ne (tgt := 65) dX4_causeOf_60 (by decide) (by omega) (by first | omega | exact hin _ _ | decide | (simp [sv_u, sv_row]; omega) | (simp [sv_u, sv_row]; exact hin _ _) | exact hin1 _ _ | (simp [sv_u, sv_row]; exact hin1 _ _)) (fun h_60 => ?_) (fun h_60 => ?_)
        · refine sv_iload_n (i := 3) dX4_causeOf_65 rfl rfl ?_
          refine sv_if_ne (tgt := 74) dX4_causeOf_66 (by decide) (by first | omega | exact hin _ _ | decide | (simp [sv_u, sv_row]; omega) | (simp [sv_u, sv_row]; exact hin _ _) | exact hin1 _ _ | (simp [sv_u, sv_row]; exact hin1 _ _)) (fun h_66 => ?_) (fun h_66 => ?_)
          · refine sv_iload dX4_causeOf_74 rfl ?_
            refine sv_ireturn dX4_causeOf_76 rfl ?_
            refine ⟨?_, rfl, rfl, rfl, rfl⟩
            have hdj : d2.toNat = j := by omega
            obtain ⟨L, hL1, hL2, hL3⟩ := sp_lk_at hw hk.1
            have hLj : j < L := by
              by_cases hL : j < L
              · exact hL
              · exact absurd hL2 (hne L (by omega))
            have hRk : sp_R m k ≠ -1 := by
              cases j with
              | zero => assumption
              | succ j => have h0 := h2 0 (by omega); have : sp_R m k = 2 := h0; omega
            unfold sp_cau
            rw [if_neg (by omega), hdj, if_neg (by intro hh; rcases hh with hh | hh | hh <;> omega)]
            first | rw [if_pos (by omega)] | rw [if_neg (by omega)]
          · refine sv_iload dX4_causeOf_69 rfl ?_
            refine sv_goto (tgt := 76) dX4_causeOf_71 (by decide) ?_
            refine sv_ireturn dX4_causeOf_76 rfl ?_
            refine ⟨?_, rfl, rfl, rfl, rfl⟩
            have hdj : d2.toNat = j := by omega
            obtain ⟨L, hL1, hL2, hL3⟩ := sp_lk_at hw hk.1
            have hLj : j < L := by
              by_cases hL : j < L
              · exact hL
              · exact absurd hL2 (hne L (by omega))
            have hRk : sp_R m k ≠ -1 := by
              cases j with
              | zero => assumption
              | succ j => have h0 := h2 0 (by omega); have : sp_R m k = 2 := h0; omega
            unfold sp_cau
            rw [if_neg (by omega), hdj, if_neg (by intro hh; rcases hh with hh | hh | hh <;> omega)]
            first | rw [if_pos (by omega)] | rw [if_neg (by omega)]
        · refine sv_iconst dX4_causeOf_63 ?_
          refine sv_ireturn dX4_causeOf_64 rfl ?_
          refine ⟨?_, rfl, rfl, rfl, rfl⟩
          unfold sp_cau
          rw [if_neg (by omega), if_pos (Or.inr (Or.inr (by rw [show d2.toNat = j by omega]; assumption)))]
      · refine sv_aload_n (i := 0) dX4_causeOf_20 rfl rfl ?_
        refine sv_iload dX4_causeOf_21 rfl ?_
        refine sv_vp0 (As := [_]) clX4_215 dX4_causeOf_23 ⟨_, rfl, rfl⟩ (by decide) rfl (Nat.le_of_ble_eq_true rfl) (by decide) (by decide) hve.lt hve.k (c_X4_reasonOf hve hmo hmv hre hw hv2 _ hcr) ?_
        refine sv_iconst dX4_causeOf_26 ?_
        refine sv_icmp_eq (tgt := 32) dX4_causeOf_27 (by decide) (by omega) (by first | omega | exact hin _ _ | decide | (simp [sv_u, sv_row]; omega) | (simp [sv_u, sv_row]; exact hin _ _) | exact hin1 _ _ | (simp [sv_u, sv_row]; exact hin1 _ _)) (fun h_27 => ?_) (fun h_27 => ?_)
        · refine sv_aload_n (i := 0) dX4_causeOf_32 rfl rfl ?_
          refine sv_getR (kz := 0) flX4_10 dX4_causeOf_33 rfl rfl hve.lt hve.k hve.r0 ?_
          refine sv_iload dX4_causeOf_36 rfl ?_
          refine sv_vp0 (As := [_]) clX4_174 dX4_causeOf_38 ⟨_, rfl, rfl⟩ (by decide) rfl (Nat.le_of_ble_eq_true rfl) (by decide) (by decide) hmo.lt hmo.k (c_X1_baseOf hmo hmv hcc _ hcr) ?_
          refine sv_istore dX4_causeOf_41 (by decide) rfl ?_
          refine sv_iinc dX4_causeOf_43 rfl (by decide) rfl ?_
          refine sv_goto (tgt := 14) dX4_causeOf_46 (by decide) ?_
          refine sv_cast (ih (j + 1) (by omega) (by omega) fun i hi => ?_) rfl rfl rfl rfl rfl rfl
          by_cases e : i = j
          · subst e; assumption
          · exact h2 i (by omega)
        · refine sv_iconst dX4_causeOf_30 ?_
          refine sv_ireturn dX4_causeOf_31 rfl ?_
          refine ⟨?_, rfl, rfl, rfl, rfl⟩
          have hn2 : sp_R m (sp_ch m k j) ≠ 2 := by assumption
          have hx := sp_ch_n2 hw hn2 (d2.toNat - (j + 1))
          rw [show j + 1 + (d2.toNat - (j + 1)) = d2.toNat by omega] at hx
          obtain ⟨L, hL1, hL2, hL3⟩ := sp_lk_at hw hk.1
          unfold sp_cau
          rw [if_neg (by omega), if_pos ?_]
          rcases hx with hx | hx
          · right; left
            by_cases hL : L ≤ d2.toNat
            · omega
            · exact absurd hx (hL3 _ (by omega))
          · exact Or.inr (Or.inr hx)
  refine sv_iload_n (i := 2) dX4_causeOf_0 rfl rfl ?_
  refine sv_bipush dX4_causeOf_1 (by decide) ?_
  refine sv_icmp_le (tgt := 8) dX4_causeOf_3 (by decide) (by first | omega | exact hin _ _ | decide | (simp [sv_u, sv_row]; omega) | (simp [sv_u, sv_row]; exact hin _ _) | exact hin1 _ _ | (simp [sv_u, sv_row]; exact hin1 _ _)) (by first | omega | exact hin _ _ | decide | (simp [sv_u, sv_row]; omega) | (simp [sv_u, sv_row]; exact hin _ _) | exact hin1 _ _ | (simp [sv_u, sv_row]; exact hin1 _ _)) (fun h_3 => ?_) (fun h_3 => ?_)
  · refine sv_iload_n (i := 1) dX4_causeOf_8 rfl rfl ?_
    refine sv_istore dX4_causeOf_9 (by decide) rfl ?_
    refine sv_iconst dX4_causeOf_11 ?_
    refine sv_istore dX4_causeOf_12 (by decide) rfl ?_
    exact lp (d2 + 1).toNat 0 (by omega) (by omega) (fun i hi => by omega)
  · refine sv_iconst dX4_causeOf_6 ?_
    refine sv_ireturn dX4_causeOf_7 rfl ?_
    refine ⟨?_, rfl, rfl, rfl, rfl⟩
    have := (sp_lk_bd hw hk.1).2
    unfold sp_cau
    rw [if_neg (by omega), if_pos (Or.inr (Or.inl (by omega)))]
set_option maxRecDepth 100000 in
set_option maxHeartbeats 4000000 in
theorem c_X4_cause {X : sv_X} {S : sv_S} {f : sv_F} {r : sv_R} {g : sv_G} {V q d fo rs fi se pa sc : Nat} {kp fd : Int → Nat} {m : Int → Int} (hve : sv_K4 S r V q d fi se pa sc) (hmo : sv_K1 S r q kp) (hmv : sv_V1 f q kp m) (hre : sv_K2 S r d fo rs fd) (hw : sp_wt m) {tx vs : Nat} (hsc : sv_K3 S r sc tx vs) (hp : sv_sep V q fi se sc tx vs rs fd) (k d2 w : Int) (hki : sv_in k) (hd2 : sv_in d2) (hwi : sv_in w) : sv_C X 4 MX4_cause 0 0 [sv_r V, sv_i k, sv_i d2, sv_i w] S f r g (sv_qi (fun a f' => a = sp_cau m k d2 w ∧ sv_un rs fi se fd f f') S r g) := by
  refine sv_met (by decide) (by simp [lg_sl, sv_cv, va_rf, Value.category]) ?_
  refine sv_fr fun hin => ?_
  have hcc := hw.c
  have hcm := hw.cm
  refine sv_iload_n (i := 1) dX4_cause_0 rfl rfl ?_
  refine sv_if_lt (tgt := 28) dX4_cause_1 (by decide) (by first | omega | exact hin _ _ | decide | (simp [sv_u, sv_row]; omega) | (simp [sv_u, sv_row]; exact hin _ _) | exact hin1 _ _ | (simp [sv_u, sv_row]; exact hin1 _ _)) (fun h_1 => ?_) (fun h_1 => ?_)
  · refine sv_bipush dX4_cause_28 (by decide) ?_
    refine sv_ireturn dX4_cause_30 rfl ?_
    exact ⟨_, rfl, rfl, rfl, rfl, by unfold sp_cau; rw [if_pos (by omega)], fun _ _ _ _ _ => rfl⟩
  · refine sv_iload_n (i := 1) dX4_cause_4 rfl rfl ?_
    refine sv_aload_n (i := 0) dX4_cause_5 rfl rfl ?_
    refine sv_getR (kz := 0) flX4_10 dX4_cause_6 rfl rfl hve.lt hve.k hve.r0 ?_
    refine sv_getI (kz := 2) flX4_82 dX4_cause_9 rfl rfl hmo.lt hmo.k ?_
    rw [hmv.came]
    refine sv_icmp_ge (tgt := 28) dX4_cause_12 (by decide) (by first | omega | exact hin _ _ | decide | (simp [sv_u, sv_row]; omega) | (simp [sv_u, sv_row]; exact hin _ _) | exact hin1 _ _ | (simp [sv_u, sv_row]; exact hin1 _ _)) (by omega) (fun h_12 => ?_) (fun h_12 => ?_)
    · refine sv_bipush dX4_cause_28 (by decide) ?_
      refine sv_ireturn dX4_cause_30 rfl ?_
      exact ⟨_, rfl, rfl, rfl, rfl, by unfold sp_cau; rw [if_pos (by omega)], fun _ _ _ _ _ => rfl⟩
    · refine sv_iload_n (i := 2) dX4_cause_15 rfl rfl ?_
      refine sv_if_lt (tgt := 28) dX4_cause_16 (by decide) (by first | omega | exact hin _ _ | decide | (simp [sv_u, sv_row]; omega) | (simp [sv_u, sv_row]; exact hin _ _) | exact hin1 _ _ | (simp [sv_u, sv_row]; exact hin1 _ _)) (fun h_16 => ?_) (fun h_16 => ?_)
      · refine sv_bipush dX4_cause_28 (by decide) ?_
        refine sv_ireturn dX4_cause_30 rfl ?_
        exact ⟨_, rfl, rfl, rfl, rfl, by unfold sp_cau; rw [if_pos (by omega)], fun _ _ _ _ _ => rfl⟩
      · refine sv_iload_n (i := 3) dX4_cause_19 rfl rfl ?_
        refine sv_if_lt (tgt := 28) dX4_cause_20 (by decide) (by first | omega | exact hin _ _ | decide | (simp [sv_u, sv_row]; omega) | (simp [sv_u, sv_row]; exact hin _ _) | exact hin1 _ _ | (simp [sv_u, sv_row]; exact hin1 _ _)) (fun h_20 => ?_) (fun h_20 => ?_)
        · refine sv_bipush dX4_cause_28 (by decide) ?_
          refine sv_ireturn dX4_cause_30 rfl ?_
          exact ⟨_, rfl, rfl, rfl, rfl, by unfold sp_cau; rw [if_pos (by omega)], fun _ _ _ _ _ => rfl⟩
        · refine sv_iload_n (i := 3) dX4_cause_23 rfl rfl ?_
          refine sv_iconst dX4_cause_24 ?_
          refine sv_icmp_lt (tgt := 31) dX4_cause_25 (by decide) (by first | omega | exact hin _ _ | decide | (simp [sv_u, sv_row]; omega) | (simp [sv_u, sv_row]; exact hin _ _) | exact hin1 _ _ | (simp [sv_u, sv_row]; exact hin1 _ _)) (by first | omega | exact hin _ _ | decide | (simp [sv_u, sv_row]; omega) | (simp [sv_u, sv_row]; exact hin _ _) | exact hin1 _ _ | (simp [sv_u, sv_row]; exact hin1 _ _)) (fun h_25 => ?_) (fun h_25 => ?_)
          · refine sv_aload_n (i := 0) dX4_cause_31 rfl rfl ?_
            refine sv_getR (kz := 4) flX4_34 dX4_cause_32 rfl rfl hve.lt hve.k hve.r4 ?_
            refine sv_aload_n (i := 0) dX4_cause_35 rfl rfl ?_
            refine sv_getR (kz := 0) flX4_10 dX4_cause_36 rfl rfl hve.lt hve.k hve.r0 ?_
            refine sv_vv0 (As := [_]) clX4_85 dX4_cause_39 ⟨_, rfl, rfl⟩ (by decide) rfl (Nat.le_of_ble_eq_true rfl) (by decide) (by decide) hre.lt hre.k (c_X2_readAll hmo hmv hre hp.2.2.1 hw hp.2.1) (fun f1 hf1 => ?_)
            obtain ⟨hr1, hv2⟩ := hf1
            have hun : sv_un rs fi se fd f f1 := fun x a b _ _ => hr1 x a b
            have hv1 : sv_V1 f1 q kp m := sv_V1.congr hmo hcc hmv fun x x0 x1 => hr1 x (by have := hp.2.1; omega) fun p p0 p1 => by have := hp.2.2.1 p p0 p1; omega
            obtain ⟨u1, u2, u3, u4⟩ := hp.un hun
            refine sv_aload_n (i := 0) dX4_cause_42 rfl rfl ?_
            refine sv_iload_n (i := 1) dX4_cause_43 rfl rfl ?_
            refine sv_iload_n (i := 2) dX4_cause_44 rfl rfl ?_
            refine sv_iload_n (i := 3) dX4_cause_45 rfl rfl ?_
            refine sv_vp0 (As := [_, _, _]) clX4_166 dX4_cause_46 ⟨_, rfl, rfl⟩ (by decide) rfl (Nat.le_of_ble_eq_true rfl) (by decide) (by decide) hve.lt hve.k (c_X4_causeOf hve hmo hv1 hre hw hv2 k d2 w (by omega) (by omega) (by omega)) ?_
            refine sv_ireturn dX4_cause_49 rfl ?_
            exact ⟨_, rfl, rfl, rfl, rfl, rfl, hun⟩
          · refine sv_bipush dX4_cause_28 (by decide) ?_
            refine sv_ireturn dX4_cause_30 rfl ?_
            exact ⟨_, rfl, rfl, rfl, rfl, by unfold sp_cau; rw [if_pos (by omega)], fun _ _ _ _ _ => rfl⟩
