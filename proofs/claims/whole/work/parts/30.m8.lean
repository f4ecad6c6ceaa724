set_option maxRecDepth 100000 in
set_option maxHeartbeats 4000000 in
theorem c_X5_read {X : sv_X} {S : sv_S} {f : sv_F} {r : sv_R} {g : sv_G} {o : Nat} {m : Int → Int} (hsh : sv_M5 S r o) (hm : f (o + 1) = m) (hw : sp_wt m) (k fo i : Int) (hk : sv_in k) (hfo : sv_in fo) (hi : sv_in i) : sv_C X 4 MX5_read 0 0 [sv_r o, sv_i k, sv_i fo, sv_i i] S f r g (sv_qi (fun a f' => a = sp_rdv m k fo i ∧ sp_sq o f f') S r g) := by
  refine sv_met (by decide) (by simp [lg_sl, sv_cv, va_rf, Value.category]) ?_
  refine sv_fr fun hin => ?_
  refine sv_aload_n (i := 0) dX5_read_0 rfl rfl ?_
  refine sv_iload_n (i := 1) dX5_read_1 rfl rfl ?_
  refine sv_vp0 (As := [_]) clX5_59 dX5_read_2 ⟨_, rfl, rfl⟩ (by decide) rfl (Nat.le_of_ble_eq_true rfl) (by decide) (by decide) hsh.lt hsh.k (c_X5_slotOf hsh (by first | exact hm | exact hm1 | exact hm2 | rfl | (simp only [sv_u_ne, sv_row_ne, sv_row_eq, ne_eq, Nat.add_left_cancel_iff, Nat.reduceEqDiff, not_false_eq_true, Nat.add_eq_left, reduceCtorEq, OfNat.ofNat_ne_zero, OfNat.one_ne_ofNat, OfNat.ofNat_ne_one, one_ne_zero, Nat.succ_ne_self]; first | exact hm | rfl) | (simp [sv_u_ne, sv_row_ne, sv_row_eq]; done) | (simp [sv_u_ne, sv_row_ne, sv_row_eq]; exact hm)) _ (by omega) hw.c) ?_
  have hst := sp_slot_spec m k
  have hcc := hw.c
  refine sv_istore dX5_read_5 (by decide) rfl ?_
  refine sv_iload dX5_read_7 rfl ?_
  refine sv_iconst dX5_read_9 ?_
  refine sv_icmp_eq (tgt := 36) dX5_read_10 (by decide) (by first | omega | exact hin _ _ | decide | (simp [sv_u, sv_row]; omega) | (simp [sv_u, sv_row]; exact hin _ _) | exact hin1 _ _ | (simp [sv_u, sv_row]; exact hin1 _ _)) (by first | omega | exact hin _ _ | decide | (simp [sv_u, sv_row]; omega) | (simp [sv_u, sv_row]; exact hin _ _) | exact hin1 _ _ | (simp [sv_u, sv_row]; exact hin1 _ _)) (fun h_10 => ?_) (fun h_10 => ?_)
  · refine sv_bipush dX5_read_36 (by decide) ?_
    refine sv_ireturn dX5_read_38 rfl ?_
    exact ⟨_, rfl, rfl, rfl, rfl, by unfold sp_rdv; rw [if_pos (by omega)], sp_sq.rf⟩
  · refine sv_iload_n (i := 2) dX5_read_13 rfl rfl ?_
    refine sv_if_eq (tgt := 32) dX5_read_14 (by decide) (by first | omega | exact hin _ _ | decide | (simp [sv_u, sv_row]; omega) | (simp [sv_u, sv_row]; exact hin _ _) | exact hin1 _ _ | (simp [sv_u, sv_row]; exact hin1 _ _)) (fun h_14 => ?_) (fun h_14 => ?_)
    · refine sv_iload_n (i := 3) dX5_read_32 rfl rfl ?_
      refine sv_if_ge (tgt := 39) dX5_read_33 (by decide) (by first | omega | exact hin _ _ | decide | (simp [sv_u, sv_row]; omega) | (simp [sv_u, sv_row]; exact hin _ _) | exact hin1 _ _ | (simp [sv_u, sv_row]; exact hin1 _ _)) (fun h_33 => ?_) (fun h_33 => ?_)
      · have hsl : sp_slot m k ≠ -1 := by omega
        obtain ⟨s0, s1, s2⟩ := sp_slot_in hsl
        have hnm := hw.num s0 s1
        have hcm := hw.cm
        have hfr := hw.frm s0 s1
        refine sv_aload_n (i := 0) dX5_read_39 rfl rfl ?_
        refine sv_iload_n (i := 1) dX5_read_40 rfl rfl ?_
        refine sv_vi0 (As := [_]) clX5_152 dX5_read_41 ⟨_, rfl, rfl⟩ (by decide) rfl (Nat.le_of_ble_eq_true rfl) (by decide) (by decide) hsh.lt hsh.k (c_X5_reads hsh (by first | exact hm | exact hm1 | exact hm2 | rfl | (simp only [sv_u_ne, sv_row_ne, sv_row_eq, ne_eq, Nat.add_left_cancel_iff, Nat.reduceEqDiff, not_false_eq_true, Nat.add_eq_left, reduceCtorEq, OfNat.ofNat_ne_zero, OfNat.one_ne_ofNat, OfNat.ofNat_ne_one, one_ne_zero, Nat.succ_ne_self]; first | exact hm | rfl) | (simp [sv_u_ne, sv_row_ne, sv_row_eq]; done) | (simp [sv_u_ne, sv_row_ne, sv_row_eq]; exact hm)) hw _ (by omega)) (fun a f0 hf0 => ?_)
        obtain ⟨ha0, hf0⟩ := hf0
        subst ha0
        refine sv_bif_ne (tgt := 50) dX5_read_44 (by decide) (fun h_44 => ?_) (fun h_44 => ?_)
        · obtain ⟨z1, z2⟩ := hf0.2.2.1 h_44
          have hok := sp_V_ok' hw h_44
          have hok0 : sp_ok (f0 (o + 3)) (6 + 2 * f0 o 4) := fun j a1 a2 => by
            rw [z1] at a2
            rw [z2 j a1 a2]
            exact hok j a1 a2
          have hfm0 : 1 ≤ f0 o 4 ∧ f0 o 4 ≤ 3 := by rw [z1]; exact hfr
          refine sv_aload_n (i := 0) dX5_read_50 rfl rfl ?_
          refine sv_iload_n (i := 2) dX5_read_51 rfl rfl ?_
          refine sv_vv0 (As := [_]) clX5_70 dX5_read_52 ⟨_, rfl, rfl⟩ (by decide) rfl (Nat.le_of_ble_eq_true rfl) (by decide) (by decide) hsh.lt hsh.k (c_X5_raisesTo hsh _ (by omega) (by omega) hfm0 (fun _ => hok0)) (fun f1 hf1 => ?_)
          subst hf1
          have e4 : sv_u (sv_row f0 (o + 3) (sp_rz (f0 (o + 3)) (f0 o 4) fo)) o 4 (max (f0 o 4) fo) o 4 = max (m (29 * sp_slot m k + 1)) fo := by simp [sv_u]; rw [z1]
          have e5 : sv_u (sv_row f0 (o + 3) (sp_rz (f0 (o + 3)) (f0 o 4) fo)) o 4 (max (f0 o 4) fo) (o + 3) = sp_rz (f0 (o + 3)) (m (29 * sp_slot m k + 1)) fo := by rw [sv_u_ne (by omega), sv_row_eq, z1]
          have e6 : sp_sq o f (sv_u (sv_row f0 (o + 3) (sp_rz (f0 (o + 3)) (f0 o 4) fo)) o 4 (max (f0 o 4) fo)) := hf0.sq.trans ⟨fun x a1 a2 a3 a4 a5 a6 a7 => by rw [sv_u_ne a1, sv_row_ne a2], by simp [sv_u, sv_row], by simp [sv_u, sv_row]⟩
          refine sv_iload_n (i := 3) dX5_read_55 rfl rfl ?_
          refine sv_aload_n (i := 0) dX5_read_56 rfl rfl ?_
          refine sv_getI (kz := 4) flX5_46 dX5_read_57 rfl rfl hsh.lt hsh.k ?_
          refine sv_sp0 (As := [_]) clX5_52 dX5_read_60 rfl (Nat.le_of_ble_eq_true rfl) (by decide) (by decide) (c_X5_valuesOf _) ?_
          rw [e4]
          refine sv_icmp_ge (tgt := 75) dX5_read_63 (by decide) (by omega) (by omega) (fun h_63 => ?_) (fun h_63 => ?_)
          · refine sv_iconst dX5_read_75 ?_
            refine sv_ireturn dX5_read_76 rfl ?_
            first
              | exact ⟨_, rfl, rfl, rfl, rfl, by unfold sp_rdv; rw [if_neg (by omega), if_neg (by omega), if_neg (by omega)], e6⟩
              | exact ⟨_, rfl, rfl, rfl, rfl, by unfold sp_rdv; rw [if_neg (by omega), if_neg (by omega), if_pos (by omega), e5]; rw [← sp_rz_max, ← sp_rz_max (v := sp_V m k)]; exact sp_rz_congr hfr.1 (by omega) (by omega) z2 i (by omega) (by omega), e6⟩
          · refine sv_aload_n (i := 0) dX5_read_66 rfl rfl ?_
            refine sv_getR (kz := 3) flX5_16 dX5_read_67 rfl rfl hsh.lt hsh.k hsh.r3 ?_
            refine sv_iload_n (i := 3) dX5_read_70 rfl rfl ?_
            refine sv_iald dX5_read_71 hsh.l3 hsh.s3 (by omega) ?_
            refine sv_goto (tgt := 76) dX5_read_72 (by decide) ?_
            refine sv_ireturn dX5_read_76 rfl ?_
            first
              | exact ⟨_, rfl, rfl, rfl, rfl, by unfold sp_rdv; rw [if_neg (by omega), if_neg (by omega), if_neg (by omega)], e6⟩
              | exact ⟨_, rfl, rfl, rfl, rfl, by unfold sp_rdv; rw [if_neg (by omega), if_neg (by omega), if_pos (by omega), e5]; rw [← sp_rz_max, ← sp_rz_max (v := sp_V m k)]; exact sp_rz_congr hfr.1 (by omega) (by omega) z2 i (by omega) (by omega), e6⟩
        · refine sv_bipush dX5_read_47 (by decide) ?_
          refine sv_ireturn dX5_read_49 rfl ?_
          exact ⟨_, rfl, rfl, rfl, rfl, by unfold sp_rdv; rw [if_neg (by omega), if_pos h_44], hf0.sq⟩
      · refine sv_bipush dX5_read_36 (by decide) ?_
        refine sv_ireturn dX5_read_38 rfl ?_
        exact ⟨_, rfl, rfl, rfl, rfl, by unfold sp_rdv; rw [if_pos (by omega)], sp_sq.rf⟩
    · have hsl : sp_slot m k ≠ -1 := by omega
      obtain ⟨s0, s1, s2⟩ := sp_slot_in hsl
      have hfr := hw.frm s0 s1
      refine sv_iload_n (i := 2) dX5_read_17 rfl rfl ?_
      refine sv_aload_n (i := 0) dX5_read_18 rfl rfl ?_
      refine sv_iload dX5_read_19 rfl ?_
      refine sv_iconst dX5_read_21 ?_
      refine sv_vp0 (As := [_, _]) clX5_38 dX5_read_22 ⟨_, rfl, rfl⟩ (by decide) rfl (Nat.le_of_ble_eq_true rfl) (by decide) (by decide) hsh.lt hsh.k (c_X5_of hsh (by first | exact hm | exact hm1 | exact hm2 | rfl | (simp only [sv_u_ne, sv_row_ne, sv_row_eq, ne_eq, Nat.add_left_cancel_iff, Nat.reduceEqDiff, not_false_eq_true, Nat.add_eq_left, reduceCtorEq, OfNat.ofNat_ne_zero, OfNat.one_ne_ofNat, OfNat.ofNat_ne_one, one_ne_zero, Nat.succ_ne_self]; first | exact hm | rfl) | (simp [sv_u_ne, sv_row_ne, sv_row_eq]; done) | (simp [sv_u_ne, sv_row_ne, sv_row_eq]; exact hm)) _ _ (by omega)) ?_
      refine sv_iconst dX5_read_25 ?_
      refine sv_sp0 (As := [_, _, _]) clX5_81 dX5_read_26 rfl (Nat.le_of_ble_eq_true rfl) (by decide) (by decide) (c_X5_in _ _ _ (by omega) (by omega) (by omega)) ?_
      refine sv_bif_eq (tgt := 36) dX5_read_29 (by decide) (fun h_29 => ?_) (fun h_29 => ?_)
      · refine sv_bipush dX5_read_36 (by decide) ?_
        refine sv_ireturn dX5_read_38 rfl ?_
        exact ⟨_, rfl, rfl, rfl, rfl, by unfold sp_rdv; rw [if_pos (by omega)], sp_sq.rf⟩
      · refine sv_iload_n (i := 3) dX5_read_32 rfl rfl ?_
        refine sv_if_ge (tgt := 39) dX5_read_33 (by decide) (by first | omega | exact hin _ _ | decide | (simp [sv_u, sv_row]; omega) | (simp [sv_u, sv_row]; exact hin _ _) | exact hin1 _ _ | (simp [sv_u, sv_row]; exact hin1 _ _)) (fun h_33 => ?_) (fun h_33 => ?_)
        · have hsl : sp_slot m k ≠ -1 := by omega
          obtain ⟨s0, s1, s2⟩ := sp_slot_in hsl
          have hnm := hw.num s0 s1
          have hcm := hw.cm
          have hfr := hw.frm s0 s1
          refine sv_aload_n (i := 0) dX5_read_39 rfl rfl ?_
          refine sv_iload_n (i := 1) dX5_read_40 rfl rfl ?_
          refine sv_vi0 (As := [_]) clX5_152 dX5_read_41 ⟨_, rfl, rfl⟩ (by decide) rfl (Nat.le_of_ble_eq_true rfl) (by decide) (by decide) hsh.lt hsh.k (c_X5_reads hsh (by first | exact hm | exact hm1 | exact hm2 | rfl | (simp only [sv_u_ne, sv_row_ne, sv_row_eq, ne_eq, Nat.add_left_cancel_iff, Nat.reduceEqDiff, not_false_eq_true, Nat.add_eq_left, reduceCtorEq, OfNat.ofNat_ne_zero, OfNat.one_ne_ofNat, OfNat.ofNat_ne_one, one_ne_zero, Nat.succ_ne_self]; first | exact hm | rfl) | (simp [sv_u_ne, sv_row_ne, sv_row_eq]; done) | (simp [sv_u_ne, sv_row_ne, sv_row_eq]; exact hm)) hw _ (by omega)) (fun a f0 hf0 => ?_)
          obtain ⟨ha0, hf0⟩ := hf0
          subst ha0
          refine sv_bif_ne (tgt := 50) dX5_read_44 (by decide) (fun h_44 => ?_) (fun h_44 => ?_)
          · obtain ⟨z1, z2⟩ := hf0.2.2.1 h_44
            have hok := sp_V_ok' hw h_44
            have hok0 : sp_ok (f0 (o + 3)) (6 + 2 * f0 o 4) := fun j a1 a2 => by
              rw [z1] at a2
              rw [z2 j a1 a2]
              exact hok j a1 a2
            have hfm0 : 1 ≤ f0 o 4 ∧ f0 o 4 ≤ 3 := by rw [z1]; exact hfr
            refine sv_aload_n (i := 0) dX5_read_50 rfl rfl ?_
            refine sv_iload_n (i := 2) dX5_read_51 rfl rfl ?_
            refine sv_vv0 (As := [_]) clX5_70 dX5_read_52 ⟨_, rfl, rfl⟩ (by decide) rfl (Nat.le_of_ble_eq_true rfl) (by decide) (by decide) hsh.lt hsh.k (c_X5_raisesTo hsh _ (by omega) (by omega) hfm0 (fun _ => hok0)) (fun f1 hf1 => ?_)
            subst hf1
            have e4 : sv_u (sv_row f0 (o + 3) (sp_rz (f0 (o + 3)) (f0 o 4) fo)) o 4 (max (f0 o 4) fo) o 4 = max (m (29 * sp_slot m k + 1)) fo := by simp [sv_u]; rw [z1]
            have e5 : sv_u (sv_row f0 (o + 3) (sp_rz (f0 (o + 3)) (f0 o 4) fo)) o 4 (max (f0 o 4) fo) (o + 3) = sp_rz (f0 (o + 3)) (m (29 * sp_slot m k + 1)) fo := by rw [sv_u_ne (by omega), sv_row_eq, z1]
            have e6 : sp_sq o f (sv_u (sv_row f0 (o + 3) (sp_rz (f0 (o + 3)) (f0 o 4) fo)) o 4 (max (f0 o 4) fo)) := hf0.sq.trans ⟨fun x a1 a2 a3 a4 a5 a6 a7 => by rw [sv_u_ne a1, sv_row_ne a2], by simp [sv_u, sv_row], by simp [sv_u, sv_row]⟩
            refine sv_iload_n (i := 3) dX5_read_55 rfl rfl ?_
            refine sv_aload_n (i := 0) dX5_read_56 rfl rfl ?_
            refine sv_getI (kz := 4) flX5_46 dX5_read_57 rfl rfl hsh.lt hsh.k ?_
            refine sv_sp0 (As := [_]) clX5_52 dX5_read_60 rfl (Nat.le_of_ble_eq_true rfl) (by decide) (by decide) (c_X5_valuesOf _) ?_
            rw [e4]
            refine sv_icmp_ge (tgt := 75) dX5_read_63 (by decide) (by omega) (by omega) (fun h_63 => ?_) (fun h_63 => ?_)
            · refine sv_iconst dX5_read_75 ?_
              refine sv_ireturn dX5_read_76 rfl ?_
              first
                | exact ⟨_, rfl, rfl, rfl, rfl, by unfold sp_rdv; rw [if_neg (by omega), if_neg (by omega), if_neg (by omega)], e6⟩
                | exact ⟨_, rfl, rfl, rfl, rfl, by unfold sp_rdv; rw [if_neg (by omega), if_neg (by omega), if_pos (by omega), e5]; rw [← sp_rz_max, ← sp_rz_max (v := sp_V m k)]; exact sp_rz_congr hfr.1 (by omega) (by omega) z2 i (by omega) (by omega), e6⟩
            · refine sv_aload_n (i := 0) dX5_read_66 rfl rfl ?_
              refine sv_getR (kz := 3) flX5_16 dX5_read_67 rfl rfl hsh.lt hsh.k hsh.r3 ?_
              refine sv_iload_n (i := 3) dX5_read_70 rfl rfl ?_
              refine sv_iald dX5_read_71 hsh.l3 hsh.s3 (by omega) ?_
              refine sv_goto (tgt := 76) dX5_read_72 (by decide) ?_
              refine sv_ireturn dX5_read_76 rfl ?_
              first
                | exact ⟨_, rfl, rfl, rfl, rfl, by unfold sp_rdv; rw [if_neg (by omega), if_neg (by omega), if_neg (by omega)], e6⟩
                | exact ⟨_, rfl, rfl, rfl, rfl, by unfold sp_rdv; rw [if_neg (by omega), if_neg (by omega), if_pos (by omega), e5]; rw [← sp_rz_max, ← sp_rz_max (v := sp_V m k)]; exact sp_rz_congr hfr.1 (by omega) (by omega) z2 i (by omega) (by omega), e6⟩
          · refine sv_bipush dX5_read_47 (by decide) ?_
            refine sv_ireturn dX5_read_49 rfl ?_
            exact ⟨_, rfl, rfl, rfl, rfl, by unfold sp_rdv; rw [if_neg (by omega), if_pos h_44], hf0.sq⟩
        · refine sv_bipush dX5_read_36 (by decide) ?_
          refine sv_ireturn dX5_read_38 rfl ?_
          exact ⟨_, rfl, rfl, rfl, rfl, by unfold sp_rdv; rw [if_pos (by omega)], sp_sq.rf⟩
