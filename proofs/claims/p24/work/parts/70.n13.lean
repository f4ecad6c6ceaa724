set_option maxRecDepth 100000 in
set_option maxHeartbeats 4000000 in
theorem c_X4_value {X : sv_X} {S : sv_S} {f : sv_F} {r : sv_R} {g : sv_G} {V q d fo rs fi se pa sc : Nat} {kp fd : Int → Nat} {m : Int → Int} (hve : sv_K4 S r V q d fi se pa sc) (hmo : sv_K1 S r q kp) (hmv : sv_V1 f q kp m) (hre : sv_K2 S r d fo rs fd) (hw : sp_wt m) (hg : 1 ≤ m 582 ∧ m 582 ≤ 3) (i : Int) (hi : sv_in i) : sv_C X 1 MX4_value 0 0 [sv_r V, sv_i i] S f r g (sv_qp (some (sv_i (if i < 0 then -2 else if i < 6 + 2 * m 582 then m (583 + i) else -1))) S f r g) := by
  refine sv_met (by decide) (by simp [lg_sl, sv_cv, va_rf, Value.category]) ?_
  refine sv_fr fun hin => ?_
  refine sv_iload_n (i := 1) dX4_value_0 rfl rfl ?_
  refine sv_if_ge (tgt := 7) dX4_value_1 (by decide) (by first | omega | exact hin _ _ | decide | (simp [sv_u, sv_row]; omega) | (simp [sv_u, sv_row]; exact hin _ _) | exact hin1 _ _ | (simp [sv_u, sv_row]; exact hin1 _ _)) (fun h_1 => ?_) (fun h_1 => ?_)
  · refine sv_iload_n (i := 1) dX4_value_7 rfl rfl ?_
    refine sv_aload_n (i := 0) dX4_value_8 rfl rfl ?_
    refine sv_getR (kz := 0) flX4_10 dX4_value_9 rfl rfl hve.lt hve.k hve.r0 ?_
    refine sv_getI (kz := 0) flX4_54 dX4_value_12 rfl rfl hmo.lt hmo.k ?_
    rw [hmv.form]
    refine sv_sp0 (As := [_]) clX4_57 dX4_value_15 rfl (Nat.le_of_ble_eq_true rfl) (by decide) (by decide) (c_X4_sizeOf _) ?_
    refine sv_icmp_ge (tgt := 33) dX4_value_18 (by decide) (by first | omega | exact hin _ _ | decide | (simp [sv_u, sv_row]; omega) | (simp [sv_u, sv_row]; exact hin _ _) | exact hin1 _ _ | (simp [sv_u, sv_row]; exact hin1 _ _)) (by first | omega | exact hin _ _ | decide | (simp [sv_u, sv_row]; omega) | (simp [sv_u, sv_row]; exact hin _ _) | exact hin1 _ _ | (simp [sv_u, sv_row]; exact hin1 _ _)) (fun h_18 => ?_) (fun h_18 => ?_)
    · refine sv_iconst dX4_value_33 ?_
      refine sv_ireturn dX4_value_34 rfl ?_
      exact ⟨by first | rw [if_pos (by omega)] | rw [if_neg (by omega), if_pos (by omega)] | rw [if_neg (by omega), if_neg (by omega)], rfl, rfl, rfl, rfl⟩
    · refine sv_aload_n (i := 0) dX4_value_21 rfl rfl ?_
      refine sv_getR (kz := 0) flX4_10 dX4_value_22 rfl rfl hve.lt hve.k hve.r0 ?_
      refine sv_getR (kz := 4) flX4_51 dX4_value_25 rfl rfl hmo.lt hmo.k hmo.r1 ?_
      refine sv_iload_n (i := 1) dX4_value_28 rfl rfl ?_
      refine sv_iald dX4_value_29 hmo.l1 hmo.s1 (by omega) ?_
      rw [hmv.val (by omega) (by omega)]
      refine sv_goto (tgt := 34) dX4_value_30 (by decide) ?_
      refine sv_ireturn dX4_value_34 rfl ?_
      exact ⟨by first | rw [if_pos (by omega)] | rw [if_neg (by omega), if_pos (by omega)] | rw [if_neg (by omega), if_neg (by omega)], rfl, rfl, rfl, rfl⟩
  · refine sv_bipush dX4_value_4 (by decide) ?_
    refine sv_ireturn dX4_value_6 rfl ?_
    exact ⟨by first | rw [if_pos (by omega)] | rw [if_neg (by omega), if_pos (by omega)] | rw [if_neg (by omega), if_neg (by omega)], rfl, rfl, rfl, rfl⟩
set_option maxRecDepth 100000 in
set_option maxHeartbeats 4000000 in
theorem c_X4_entry {X : sv_X} {S : sv_S} {f : sv_F} {r : sv_R} {g : sv_G} {V q d fo rs fi se pa sc : Nat} {kp fd : Int → Nat} {m : Int → Int} (hve : sv_K4 S r V q d fi se pa sc) (hmo : sv_K1 S r q kp) (hmv : sv_V1 f q kp m) (hre : sv_K2 S r d fo rs fd) (hw : sp_wt m) (k i w : Int) (hki : sv_in k) (hi : sv_in i) (hwi : sv_in w) : sv_C X 1 MX4_entry 0 0 [sv_r V, sv_i k, sv_i i, sv_i w] S f r g (sv_qp (some (sv_i (if k < 0 ∨ i < 0 ∨ ¬ (0 ≤ w ∧ w ≤ 1) then -2 else if sp_slot m k = -1 ∨ m (29 * sp_slot m k + 4) ≤ i then -1 else if w = 0 then m (29 * sp_slot m k + (5 + i)) else m (29 * sp_slot m k + (17 + i))))) S f r g) := by
  refine sv_met (by decide) (by simp [lg_sl, sv_cv, va_rf, Value.category]) ?_
  refine sv_fr fun hin => ?_
  have hcc := hw.c
  refine sv_iload_n (i := 1) dX4_entry_0 rfl rfl ?_
  refine sv_if_lt (tgt := 17) dX4_entry_1 (by decide) (by first | omega | exact hin _ _ | decide | (simp [sv_u, sv_row]; omega) | (simp [sv_u, sv_row]; exact hin _ _) | exact hin1 _ _ | (simp [sv_u, sv_row]; exact hin1 _ _)) (fun h_1 => ?_) (fun h_1 => ?_)
  · refine sv_bipush dX4_entry_17 (by decide) ?_
    refine sv_ireturn dX4_entry_19 rfl ?_
    exact ⟨by first | rw [if_pos (by omega)] | rw [if_neg (by omega), if_pos (by omega)] | rw [if_neg (by omega), if_neg (by omega), if_pos (by omega)] | rw [if_neg (by omega), if_neg (by omega), if_neg (by omega)], rfl, rfl, rfl, rfl⟩
  · refine sv_iload_n (i := 2) dX4_entry_4 rfl rfl ?_
    refine sv_if_lt (tgt := 17) dX4_entry_5 (by decide) (by first | omega | exact hin _ _ | decide | (simp [sv_u, sv_row]; omega) | (simp [sv_u, sv_row]; exact hin _ _) | exact hin1 _ _ | (simp [sv_u, sv_row]; exact hin1 _ _)) (fun h_5 => ?_) (fun h_5 => ?_)
    · refine sv_bipush dX4_entry_17 (by decide) ?_
      refine sv_ireturn dX4_entry_19 rfl ?_
      exact ⟨by first | rw [if_pos (by omega)] | rw [if_neg (by omega), if_pos (by omega)] | rw [if_neg (by omega), if_neg (by omega), if_pos (by omega)] | rw [if_neg (by omega), if_neg (by omega), if_neg (by omega)], rfl, rfl, rfl, rfl⟩
    · refine sv_iload_n (i := 3) dX4_entry_8 rfl rfl ?_
      refine sv_if_lt (tgt := 17) dX4_entry_9 (by decide) (by first | omega | exact hin _ _ | decide | (simp [sv_u, sv_row]; omega) | (simp [sv_u, sv_row]; exact hin _ _) | exact hin1 _ _ | (simp [sv_u, sv_row]; exact hin1 _ _)) (fun h_9 => ?_) (fun h_9 => ?_)
      · refine sv_bipush dX4_entry_17 (by decide) ?_
        refine sv_ireturn dX4_entry_19 rfl ?_
        exact ⟨by first | rw [if_pos (by omega)] | rw [if_neg (by omega), if_pos (by omega)] | rw [if_neg (by omega), if_neg (by omega), if_pos (by omega)] | rw [if_neg (by omega), if_neg (by omega), if_neg (by omega)], rfl, rfl, rfl, rfl⟩
      · refine sv_iload_n (i := 3) dX4_entry_12 rfl rfl ?_
        refine sv_iconst dX4_entry_13 ?_
        refine sv_icmp_lt (tgt := 20) dX4_entry_14 (by decide) (by first | omega | exact hin _ _ | decide | (simp [sv_u, sv_row]; omega) | (simp [sv_u, sv_row]; exact hin _ _) | exact hin1 _ _ | (simp [sv_u, sv_row]; exact hin1 _ _)) (by first | omega | exact hin _ _ | decide | (simp [sv_u, sv_row]; omega) | (simp [sv_u, sv_row]; exact hin _ _) | exact hin1 _ _ | (simp [sv_u, sv_row]; exact hin1 _ _)) (fun h_14 => ?_) (fun h_14 => ?_)
        · refine sv_aload_n (i := 0) dX4_entry_20 rfl rfl ?_
          refine sv_getR (kz := 0) flX4_10 dX4_entry_21 rfl rfl hve.lt hve.k hve.r0 ?_
          refine sv_iload_n (i := 1) dX4_entry_24 rfl rfl ?_
          refine sv_vp0 (As := [_]) clX4_124 dX4_entry_25 ⟨_, rfl, rfl⟩ (by decide) rfl (Nat.le_of_ble_eq_true rfl) (by decide) (by decide) hmo.lt hmo.k (c_X1_placeOf hmo hmv hcc _ hki) ?_
          have hst := sp_slot_spec m k
          refine sv_istore dX4_entry_28 (by decide) rfl ?_
          refine sv_iload dX4_entry_30 rfl ?_
          refine sv_iconst dX4_entry_32 ?_
          refine sv_icmp_eq (tgt := 53) dX4_entry_33 (by decide) (by first | omega | exact hin _ _ | decide | (simp [sv_u, sv_row]; omega) | (simp [sv_u, sv_row]; exact hin _ _) | exact hin1 _ _ | (simp [sv_u, sv_row]; exact hin1 _ _)) (by first | omega | exact hin _ _ | decide | (simp [sv_u, sv_row]; omega) | (simp [sv_u, sv_row]; exact hin _ _) | exact hin1 _ _ | (simp [sv_u, sv_row]; exact hin1 _ _)) (fun h_33 => ?_) (fun h_33 => ?_)
          · refine sv_iconst dX4_entry_53 ?_
            refine sv_ireturn dX4_entry_54 rfl ?_
            exact ⟨by first | rw [if_pos (by omega)] | rw [if_neg (by omega), if_pos (by omega)] | rw [if_neg (by omega), if_neg (by omega), if_pos (by omega)] | rw [if_neg (by omega), if_neg (by omega), if_neg (by omega)], rfl, rfl, rfl, rfl⟩
          · have hsn : sp_slot m k ≠ -1 := by assumption
            obtain ⟨s0, s1, s2⟩ := sp_slot_in hsn
            have hmy := hw.many s0 s1
            have hk := hmo.o (p := sp_slot m k) (by omega) (by omega)
            have hkv := hmv.o (s := sp_slot m k) (by omega) (by omega)
            refine sv_iload_n (i := 2) dX4_entry_36 rfl rfl ?_
            refine sv_aload_n (i := 0) dX4_entry_37 rfl rfl ?_
            refine sv_getR (kz := 0) flX4_10 dX4_entry_38 rfl rfl hve.lt hve.k hve.r0 ?_
            refine sv_getR (kz := 6) flX4_89 dX4_entry_41 rfl rfl hmo.lt hmo.k hmo.r3 ?_
            refine sv_iload dX4_entry_44 rfl ?_
            refine sv_aald (t := 0) (n := 20) dX4_entry_46 hmo.l3 (by decide) hmo.s3 (by omega) (hmo.e (p := sp_slot m k) (by omega) (by omega)) ?_
            refine sv_getI (kz := 4) flX4_149 dX4_entry_47 rfl rfl hk.lt hk.k ?_
            rw [hkv.size]
            refine sv_icmp_lt (tgt := 55) dX4_entry_50 (by decide) (by first | omega | exact hin _ _ | decide | (simp [sv_u, sv_row]; omega) | (simp [sv_u, sv_row]; exact hin _ _) | exact hin1 _ _ | (simp [sv_u, sv_row]; exact hin1 _ _)) (by first | omega | exact hin _ _ | decide | (simp [sv_u, sv_row]; omega) | (simp [sv_u, sv_row]; exact hin _ _) | exact hin1 _ _ | (simp [sv_u, sv_row]; exact hin1 _ _)) (fun h_50 => ?_) (fun h_50 => ?_)
            · refine sv_aload_n (i := 0) dX4_entry_55 rfl rfl ?_
              refine sv_getR (kz := 0) flX4_10 dX4_entry_56 rfl rfl hve.lt hve.k hve.r0 ?_
              refine sv_getR (kz := 6) flX4_89 dX4_entry_59 rfl rfl hmo.lt hmo.k hmo.r3 ?_
              refine sv_iload dX4_entry_62 rfl ?_
              refine sv_aald (t := 0) (n := 20) dX4_entry_64 hmo.l3 (by decide) hmo.s3 (by omega) (hmo.e (p := sp_slot m k) (by omega) (by omega)) ?_
              refine sv_astore dX4_entry_65 (by decide) rfl ?_
              refine sv_iload_n (i := 3) dX4_entry_67 rfl rfl ?_
              refine sv_if_ne (tgt := 81) dX4_entry_68 (by decide) (by first | omega | exact hin _ _ | decide | (simp [sv_u, sv_row]; omega) | (simp [sv_u, sv_row]; exact hin _ _) | exact hin1 _ _ | (simp [sv_u, sv_row]; exact hin1 _ _)) (fun h_68 => ?_) (fun h_68 => ?_)
              · refine sv_aload dX4_entry_81 rfl ?_
                refine sv_getR (kz := 6) flX4_150 dX4_entry_83 rfl rfl hk.lt hk.k hk.r2 ?_
                refine sv_iload_n (i := 2) dX4_entry_86 rfl rfl ?_
                refine sv_iald dX4_entry_87 hk.l2 hk.s2 (by omega) ?_
                try rw [hkv.val (by omega) (by omega)]
                refine sv_ireturn dX4_entry_88 rfl ?_
                exact ⟨by first | rw [if_pos (by omega)] | rw [if_neg (by omega), if_pos (by omega)] | rw [if_neg (by omega), if_neg (by omega), if_pos (by omega)] | rw [if_neg (by omega), if_neg (by omega), if_neg (by omega)], rfl, rfl, rfl, rfl⟩
              · refine sv_aload dX4_entry_71 rfl ?_
                refine sv_getR (kz := 5) flX4_163 dX4_entry_73 rfl rfl hk.lt hk.k hk.r1 ?_
                refine sv_iload_n (i := 2) dX4_entry_76 rfl rfl ?_
                refine sv_iald dX4_entry_77 hk.l1 hk.s1 (by omega) ?_
                rw [hkv.idx (by omega) (by omega)]
                refine sv_goto (tgt := 88) dX4_entry_78 (by decide) ?_
                try rw [hkv.val (by omega) (by omega)]
                refine sv_ireturn dX4_entry_88 rfl ?_
                exact ⟨by first | rw [if_pos (by omega)] | rw [if_neg (by omega), if_pos (by omega)] | rw [if_neg (by omega), if_neg (by omega), if_pos (by omega)] | rw [if_neg (by omega), if_neg (by omega), if_neg (by omega)], rfl, rfl, rfl, rfl⟩
            · refine sv_iconst dX4_entry_53 ?_
              refine sv_ireturn dX4_entry_54 rfl ?_
              exact ⟨by first | rw [if_pos (by omega)] | rw [if_neg (by omega), if_pos (by omega)] | rw [if_neg (by omega), if_neg (by omega), if_pos (by omega)] | rw [if_neg (by omega), if_neg (by omega), if_neg (by omega)], rfl, rfl, rfl, rfl⟩
        · refine sv_bipush dX4_entry_17 (by decide) ?_
          refine sv_ireturn dX4_entry_19 rfl ?_
          exact ⟨by first | rw [if_pos (by omega)] | rw [if_neg (by omega), if_pos (by omega)] | rw [if_neg (by omega), if_neg (by omega), if_pos (by omega)] | rw [if_neg (by omega), if_neg (by omega), if_neg (by omega)], rfl, rfl, rfl, rfl⟩
