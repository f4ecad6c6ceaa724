set_option maxRecDepth 100000 in
set_option maxHeartbeats 4000000 in
theorem c_X4_read {X : sv_X} {S : sv_S} {f : sv_F} {r : sv_R} {g : sv_G} {V q d fo rs fi se pa sc : Nat} {kp fd : Int → Nat} {m : Int → Int} (hve : sv_K4 S r V q d fi se pa sc) (hmo : sv_K1 S r q kp) (hmv : sv_V1 f q kp m) (hre : sv_K2 S r d fo rs fd) (hw : sp_wt m) {tx vs : Nat} (hsc : sv_K3 S r sc tx vs) (hp : sv_sep V q fi se sc tx vs rs fd) (k F i : Int) (hki : sv_in k) (hF : sv_in F) (hi : sv_in i) : sv_C X 4 MX4_read 0 0 [sv_r V, sv_i k, sv_i F, sv_i i] S f r g (sv_qi (fun a f' => a = sp_rdv m k F i ∧ sv_un rs fi se fd f f') S r g) := by
  refine sv_met (by decide) (by simp [lg_sl, sv_cv, va_rf, Value.category]) ?_
  refine sv_fr fun hin => ?_
  have hcc := hw.c
  refine sv_aload_n (i := 0) dX4_read_0 rfl rfl ?_
  refine sv_getR (kz := 0) flX4_10 dX4_read_1 rfl rfl hve.lt hve.k hve.r0 ?_
  refine sv_iload_n (i := 1) dX4_read_4 rfl rfl ?_
  refine sv_vp0 (As := [_]) clX4_124 dX4_read_5 ⟨_, rfl, rfl⟩ (by decide) rfl (Nat.le_of_ble_eq_true rfl) (by decide) (by decide) hmo.lt hmo.k (c_X1_placeOf hmo hmv hcc _ hki) ?_
  have hst := sp_slot_spec m k
  refine sv_istore dX4_read_8 (by decide) rfl ?_
  refine sv_iload dX4_read_10 rfl ?_
  refine sv_iconst dX4_read_12 ?_
  refine sv_icmp_eq (tgt := 29) dX4_read_13 (by decide) (by first | omega | exact hin _ _ | decide | (simp [sv_u, sv_row]; omega) | (simp [sv_u, sv_row]; exact hin _ _) | exact hin1 _ _ | (simp [sv_u, sv_row]; exact hin1 _ _)) (by first | omega | exact hin _ _ | decide | (simp [sv_u, sv_row]; omega) | (simp [sv_u, sv_row]; exact hin _ _) | exact hin1 _ _ | (simp [sv_u, sv_row]; exact hin1 _ _)) (fun h_13 => ?_) (fun h_13 => ?_)
  · refine sv_bipush dX4_read_29 (by decide) ?_
    refine sv_ireturn dX4_read_31 rfl ?_
    exact ⟨_, rfl, rfl, rfl, rfl, by unfold sp_rdv; rw [if_pos (by omega)], fun _ _ _ _ _ => rfl⟩
  · have hsn : sp_slot m k ≠ -1 := by assumption
    obtain ⟨s0, s1, s2⟩ := sp_slot_in hsn
    have hfm := hw.frm s0 s1
    have hk := hmo.o (p := sp_slot m k) (by omega) (by omega)
    have hkv := hmv.o (s := sp_slot m k) (by omega) (by omega)
    refine sv_iload_n (i := 2) dX4_read_16 rfl rfl ?_
    refine sv_if_lt (tgt := 29) dX4_read_17 (by decide) (by first | omega | exact hin _ _ | decide | (simp [sv_u, sv_row]; omega) | (simp [sv_u, sv_row]; exact hin _ _) | exact hin1 _ _ | (simp [sv_u, sv_row]; exact hin1 _ _)) (fun h_17 => ?_) (fun h_17 => ?_)
    · refine sv_bipush dX4_read_29 (by decide) ?_
      refine sv_ireturn dX4_read_31 rfl ?_
      exact ⟨_, rfl, rfl, rfl, rfl, by unfold sp_rdv; rw [if_pos (by omega)], fun _ _ _ _ _ => rfl⟩
    · refine sv_iload_n (i := 2) dX4_read_20 rfl rfl ?_
      refine sv_iconst dX4_read_21 ?_
      refine sv_icmp_gt (tgt := 29) dX4_read_22 (by decide) (by first | omega | exact hin _ _ | decide | (simp [sv_u, sv_row]; omega) | (simp [sv_u, sv_row]; exact hin _ _) | exact hin1 _ _ | (simp [sv_u, sv_row]; exact hin1 _ _)) (by first | omega | exact hin _ _ | decide | (simp [sv_u, sv_row]; omega) | (simp [sv_u, sv_row]; exact hin _ _) | exact hin1 _ _ | (simp [sv_u, sv_row]; exact hin1 _ _)) (fun h_22 => ?_) (fun h_22 => ?_)
      · refine sv_bipush dX4_read_29 (by decide) ?_
        refine sv_ireturn dX4_read_31 rfl ?_
        exact ⟨_, rfl, rfl, rfl, rfl, by unfold sp_rdv; rw [if_pos (by omega)], fun _ _ _ _ _ => rfl⟩
      · refine sv_iload_n (i := 3) dX4_read_25 rfl rfl ?_
        refine sv_if_ge (tgt := 32) dX4_read_26 (by decide) (by first | omega | exact hin _ _ | decide | (simp [sv_u, sv_row]; omega) | (simp [sv_u, sv_row]; exact hin _ _) | exact hin1 _ _ | (simp [sv_u, sv_row]; exact hin1 _ _)) (fun h_26 => ?_) (fun h_26 => ?_)
        · refine sv_aload_n (i := 0) dX4_read_32 rfl rfl ?_
          refine sv_getR (kz := 0) flX4_10 dX4_read_33 rfl rfl hve.lt hve.k hve.r0 ?_
          refine sv_getR (kz := 6) flX4_89 dX4_read_36 rfl rfl hmo.lt hmo.k hmo.r3 ?_
          refine sv_iload dX4_read_39 rfl ?_
          refine sv_aald (t := 0) (n := 20) dX4_read_41 hmo.l3 (by decide) hmo.s3 (by omega) (hmo.e (p := sp_slot m k) (by omega) (by omega)) ?_
          refine sv_getI (kz := 1) flX4_98 dX4_read_42 rfl rfl hk.lt hk.k ?_
          rw [hkv.form]
          refine sv_istore dX4_read_45 (by decide) rfl ?_
          refine sv_iload_n (i := 2) dX4_read_47 rfl rfl ?_
          refine sv_if_eq (tgt := 60) dX4_read_48 (by decide) (by first | omega | exact hin _ _ | decide | (simp [sv_u, sv_row]; omega) | (simp [sv_u, sv_row]; exact hin _ _) | exact hin1 _ _ | (simp [sv_u, sv_row]; exact hin1 _ _)) (fun h_48 => ?_) (fun h_48 => ?_)
          · refine sv_aload_n (i := 0) dX4_read_60 rfl rfl ?_
            refine sv_getR (kz := 4) flX4_34 dX4_read_61 rfl rfl hve.lt hve.k hve.r4 ?_
            refine sv_aload_n (i := 0) dX4_read_64 rfl rfl ?_
            refine sv_getR (kz := 0) flX4_10 dX4_read_65 rfl rfl hve.lt hve.k hve.r0 ?_
            refine sv_vv0 (As := [_]) clX4_85 dX4_read_68 ⟨_, rfl, rfl⟩ (by decide) rfl (Nat.le_of_ble_eq_true rfl) (by decide) (by decide) hre.lt hre.k (c_X2_readAll hmo hmv hre hp.2.2.1 hw hp.2.1) (fun f1 hf1 => ?_)
            obtain ⟨hr1, hv2⟩ := hf1
            have hun : sv_un rs fi se fd f f1 := fun x a b _ _ => hr1 x a b
            have hv1 : sv_V1 f1 q kp m := sv_V1.congr hmo hcc hmv fun x x0 x1 => hr1 x (by have := hp.2.1; omega) fun p p0 p1 => by have := hp.2.2.1 p p0 p1; omega
            obtain ⟨u1, u2, u3, u4⟩ := hp.un hun
            obtain ⟨vv1, vv2⟩ := hv2 _ s0 s1
            rw [s2] at vv1
            refine sv_aload_n (i := 0) dX4_read_71 rfl rfl ?_
            refine sv_getR (kz := 4) flX4_34 dX4_read_72 rfl rfl hve.lt hve.k hve.r4 ?_
            refine sv_getR (kz := 1) flX4_127 dX4_read_75 rfl rfl hre.lt hre.k hre.r2 ?_
            refine sv_iload dX4_read_78 rfl ?_
            refine sv_iald dX4_read_80 hre.l2 hre.s2 (by omega) ?_
            rw [vv1]
            refine sv_iconst dX4_read_81 ?_
            refine sv_icmp_eq (tgt := 88) dX4_read_82 (by decide) (by have := sp_R_in hw (n := k); omega) (by first | omega | exact hin _ _ | decide | (simp [sv_u, sv_row]; omega) | (simp [sv_u, sv_row]; exact hin _ _) | exact hin1 _ _ | (simp [sv_u, sv_row]; exact hin1 _ _)) (fun h_82 => ?_) (fun h_82 => ?_)
            · have hRk : sp_R m k = -1 := by assumption
              have g100 : ∀ G : Int, (m (29 * sp_slot m k + 1) ≤ G ∧ G ≤ 3) → (i < 6 + 2 * G → sp_rdv m k F i = sp_rz (sp_V m k) (m (29 * sp_slot m k + 1)) G i) → (6 + 2 * G ≤ i → sp_rdv m k F i = -1) → sv_T X (sv_rm 4 0 0) MX4_read (sv_Zm X 0 0 (sv_qi (fun a f' => a = sp_rdv m k F i ∧ sv_un rs fi se fd f f') S r g)) 0 0 100 [some (sv_r V), some (sv_i k), some (sv_i F), some (sv_i i), some (sv_i (sp_slot m k)), some (sv_i (m (29 * sp_slot m k + 1))), some (sv_i G)] [] S (f1) r g := by
                intro G hG hval2 hval
                refine sv_iload_n (i := 3) dX4_read_100 rfl rfl ?_
                refine sv_iload dX4_read_101 rfl ?_
                refine sv_sp0 (As := [_]) clX4_57 dX4_read_103 rfl (Nat.le_of_ble_eq_true rfl) (by decide) (by decide) (c_X4_sizeOf _) ?_
                refine sv_icmp_lt (tgt := 111) dX4_read_106 (by decide) (by first | omega | exact hin _ _ | decide | (simp [sv_u, sv_row]; omega) | (simp [sv_u, sv_row]; exact hin _ _) | exact hin1 _ _ | (simp [sv_u, sv_row]; exact hin1 _ _)) (by first | omega | exact hin _ _ | decide | (simp [sv_u, sv_row]; omega) | (simp [sv_u, sv_row]; exact hin _ _) | exact hin1 _ _ | (simp [sv_u, sv_row]; exact hin1 _ _)) (fun h_106 => ?_) (fun h_106 => ?_)
                · refine sv_aload_n (i := 0) dX4_read_111 rfl rfl ?_
                  refine sv_iload dX4_read_112 rfl ?_
                  refine sv_iload dX4_read_114 rfl ?_
                  refine sv_aload_n (i := 0) dX4_read_116 rfl rfl ?_
                  refine sv_getR (kz := 5) flX4_38 dX4_read_117 rfl rfl hve.lt hve.k hve.r5 ?_
                  refine sv_vv0 (As := [_, _, _]) clX4_113 dX4_read_120 ⟨_, rfl, rfl⟩ (by decide) rfl (Nat.le_of_ble_eq_true rfl) (by decide) (by decide) hve.lt hve.k (c_X4_raiseRead hve hmo hv1 hre hw ⟨hve.l5, hve.s5⟩ (sp_slot m k) G ⟨s0, s1⟩ hG (by rw [s2]; exact hRk) (fun j j0 j1 => by rw [s2] at vv2 ⊢; exact vv2 hRk j j0 j1) ((hp.1 fi (by simp)).2.2 _ s0 (by omega)) (hp.1 fi (by simp)).1) (fun f2 hf2 => ?_)
                  obtain ⟨e1, e2⟩ := hf2
                  refine sv_aload_n (i := 0) dX4_read_123 rfl rfl ?_
                  refine sv_getR (kz := 5) flX4_38 dX4_read_124 rfl rfl hve.lt hve.k hve.r5 ?_
                  refine sv_iload_n (i := 3) dX4_read_127 rfl rfl ?_
                  refine sv_iald dX4_read_128 hve.l5 hve.s5 (by omega) ?_
                  rw [e2 i (by omega) (by omega), s2]
                  refine sv_ireturn dX4_read_129 rfl ?_
                  exact ⟨_, rfl, rfl, rfl, rfl, (hval2 (by omega)).symm, hun.tr fun x _ _ c _ => e1 x c⟩
                · refine sv_iconst dX4_read_109 ?_
                  refine sv_ireturn dX4_read_110 rfl ?_
                  exact ⟨_, rfl, rfl, rfl, rfl, (hval (by omega)).symm, hun⟩
              refine sv_iload_n (i := 2) dX4_read_88 rfl rfl ?_
              refine sv_if_ne (tgt := 97) dX4_read_89 (by decide) (by first | omega | exact hin _ _ | decide | (simp [sv_u, sv_row]; omega) | (simp [sv_u, sv_row]; exact hin _ _) | exact hin1 _ _ | (simp [sv_u, sv_row]; exact hin1 _ _)) (fun h_89 => ?_) (fun h_89 => ?_)
              · refine sv_iload_n (i := 2) dX4_read_97 rfl rfl ?_
                refine sv_istore dX4_read_98 (by decide) rfl ?_
                first
                | (refine g100 (m (29 * sp_slot m k + 1)) (by omega) (fun hh => ?_) (fun hh => ?_)
                   · unfold sp_rdv; rw [if_neg (by omega), if_neg (by omega), if_pos (by omega), sp_rz_self (by omega), sp_rz_self (by omega)]
                   · unfold sp_rdv; rw [if_neg (by omega), if_neg (by omega), if_neg (by omega)])
                | (refine g100 F (by omega) (fun hh => ?_) (fun hh => ?_)
                   · unfold sp_rdv; rw [if_neg (by omega), if_neg (by omega), if_pos (by omega)]
                   · unfold sp_rdv; rw [if_neg (by omega), if_neg (by omega), if_neg (by omega)])
              · refine sv_iload dX4_read_92 rfl ?_
                refine sv_goto (tgt := 98) dX4_read_94 (by decide) ?_
                refine sv_istore dX4_read_98 (by decide) rfl ?_
                first
                | (refine g100 (m (29 * sp_slot m k + 1)) (by omega) (fun hh => ?_) (fun hh => ?_)
                   · unfold sp_rdv; rw [if_neg (by omega), if_neg (by omega), if_pos (by omega), sp_rz_self (by omega), sp_rz_self (by omega)]
                   · unfold sp_rdv; rw [if_neg (by omega), if_neg (by omega), if_neg (by omega)])
                | (refine g100 F (by omega) (fun hh => ?_) (fun hh => ?_)
                   · unfold sp_rdv; rw [if_neg (by omega), if_neg (by omega), if_pos (by omega)]
                   · unfold sp_rdv; rw [if_neg (by omega), if_neg (by omega), if_neg (by omega)])
            · refine sv_bipush dX4_read_85 (by decide) ?_
              refine sv_ireturn dX4_read_87 rfl ?_
              exact ⟨_, rfl, rfl, rfl, rfl, by unfold sp_rdv; rw [if_neg (by omega), if_pos (by assumption)], hun⟩
          · refine sv_iload_n (i := 2) dX4_read_51 rfl rfl ?_
            refine sv_iload dX4_read_52 rfl ?_
            refine sv_icmp_ge (tgt := 60) dX4_read_54 (by decide) (by first | omega | exact hin _ _ | decide | (simp [sv_u, sv_row]; omega) | (simp [sv_u, sv_row]; exact hin _ _) | exact hin1 _ _ | (simp [sv_u, sv_row]; exact hin1 _ _)) (by first | omega | exact hin _ _ | decide | (simp [sv_u, sv_row]; omega) | (simp [sv_u, sv_row]; exact hin _ _) | exact hin1 _ _ | (simp [sv_u, sv_row]; exact hin1 _ _)) (fun h_54 => ?_) (fun h_54 => ?_)
            · refine sv_aload_n (i := 0) dX4_read_60 rfl rfl ?_
              refine sv_getR (kz := 4) flX4_34 dX4_read_61 rfl rfl hve.lt hve.k hve.r4 ?_
              refine sv_aload_n (i := 0) dX4_read_64 rfl rfl ?_
              refine sv_getR (kz := 0) flX4_10 dX4_read_65 rfl rfl hve.lt hve.k hve.r0 ?_
              refine sv_vv0 (As := [_]) clX4_85 dX4_read_68 ⟨_, rfl, rfl⟩ (by decide) rfl (Nat.le_of_ble_eq_true rfl) (by decide) (by decide) hre.lt hre.k (c_X2_readAll hmo hmv hre hp.2.2.1 hw hp.2.1) (fun f1 hf1 => ?_)
              obtain ⟨hr1, hv2⟩ := hf1
              have hun : sv_un rs fi se fd f f1 := fun x a b _ _ => hr1 x a b
              have hv1 : sv_V1 f1 q kp m := sv_V1.congr hmo hcc hmv fun x x0 x1 => hr1 x (by have := hp.2.1; omega) fun p p0 p1 => by have := hp.2.2.1 p p0 p1; omega
              obtain ⟨u1, u2, u3, u4⟩ := hp.un hun
              obtain ⟨vv1, vv2⟩ := hv2 _ s0 s1
              rw [s2] at vv1
              refine sv_aload_n (i := 0) dX4_read_71 rfl rfl ?_
              refine sv_getR (kz := 4) flX4_34 dX4_read_72 rfl rfl hve.lt hve.k hve.r4 ?_
              refine sv_getR (kz := 1) flX4_127 dX4_read_75 rfl rfl hre.lt hre.k hre.r2 ?_
              refine sv_iload dX4_read_78 rfl ?_
              refine sv_iald dX4_read_80 hre.l2 hre.s2 (by omega) ?_
              rw [vv1]
              refine sv_iconst dX4_read_81 ?_
              refine sv_icmp_eq (tgt := 88) dX4_read_82 (by decide) (by have := sp_R_in hw (n := k); omega) (by first | omega | exact hin _ _ | decide | (simp [sv_u, sv_row]; omega) | (simp [sv_u, sv_row]; exact hin _ _) | exact hin1 _ _ | (simp [sv_u, sv_row]; exact hin1 _ _)) (fun h_82 => ?_) (fun h_82 => ?_)
              · have hRk : sp_R m k = -1 := by assumption
                have g100 : ∀ G : Int, (m (29 * sp_slot m k + 1) ≤ G ∧ G ≤ 3) → (i < 6 + 2 * G → sp_rdv m k F i = sp_rz (sp_V m k) (m (29 * sp_slot m k + 1)) G i) → (6 + 2 * G ≤ i → sp_rdv m k F i = -1) → sv_T X (sv_rm 4 0 0) MX4_read (sv_Zm X 0 0 (sv_qi (fun a f' => a = sp_rdv m k F i ∧ sv_un rs fi se fd f f') S r g)) 0 0 100 [some (sv_r V), some (sv_i k), some (sv_i F), some (sv_i i), some (sv_i (sp_slot m k)), some (sv_i (m (29 * sp_slot m k + 1))), some (sv_i G)] [] S (f1) r g := by
                  intro G hG hval2 hval
                  refine sv_iload_n (i := 3) dX4_read_100 rfl rfl ?_
                  refine sv_iload dX4_read_101 rfl ?_
                  refine sv_sp0 (As := [_]) clX4_57 dX4_read_103 rfl (Nat.le_of_ble_eq_true rfl) (by decide) (by decide) (c_X4_sizeOf _) ?_
                  refine sv_icmp_lt (tgt := 111) dX4_read_106 (by decide) (by first | omega | exact hin _ _ | decide | (simp [sv_u, sv_row]; omega) | (simp [sv_u, sv_row]; exact hin _ _) | exact hin1 _ _ | (simp [sv_u, sv_row]; exact hin1 _ _)) (by first | omega | exact hin _ _ | decide | (simp [sv_u, sv_row]; omega) | (simp [sv_u, sv_row]; exact hin _ _) | exact hin1 _ _ | (simp [sv_u, sv_row]; exact hin1 _ _)) (fun h_106 => ?_) (fun h_106 => ?_)
                  · refine sv_aload_n (i := 0) dX4_read_111 rfl rfl ?_
                    refine sv_iload dX4_read_112 rfl ?_
                    refine sv_iload dX4_read_114 rfl ?_
                    refine sv_aload_n (i := 0) dX4_read_116 rfl rfl ?_
                    refine sv_getR (kz := 5) flX4_38 dX4_read_117 rfl rfl hve.lt hve.k hve.r5 ?_
                    refine sv_vv0 (As := [_, _, _]) clX4_113 dX4_read_120 ⟨_, rfl, rfl⟩ (by decide) rfl (Nat.le_of_ble_eq_true rfl) (by decide) (by decide) hve.lt hve.k (c_X4_raiseRead hve hmo hv1 hre hw ⟨hve.l5, hve.s5⟩ (sp_slot m k) G ⟨s0, s1⟩ hG (by rw [s2]; exact hRk) (fun j j0 j1 => by rw [s2] at vv2 ⊢; exact vv2 hRk j j0 j1) ((hp.1 fi (by simp)).2.2 _ s0 (by omega)) (hp.1 fi (by simp)).1) (fun f2 hf2 => ?_)
                    obtain ⟨e1, e2⟩ := hf2
                    refine sv_aload_n (i := 0) dX4_read_123 rfl rfl ?_
                    refine sv_getR (kz := 5) flX4_38 dX4_read_124 rfl rfl hve.lt hve.k hve.r5 ?_
                    refine sv_iload_n (i := 3) dX4_read_127 rfl rfl ?_
                    refine sv_iald dX4_read_128 hve.l5 hve.s5 (by omega) ?_
                    rw [e2 i (by omega) (by omega), s2]
                    refine sv_ireturn dX4_read_129 rfl ?_
                    exact ⟨_, rfl, rfl, rfl, rfl, (hval2 (by omega)).symm, hun.tr fun x _ _ c _ => e1 x c⟩
                  · refine sv_iconst dX4_read_109 ?_
                    refine sv_ireturn dX4_read_110 rfl ?_
                    exact ⟨_, rfl, rfl, rfl, rfl, (hval (by omega)).symm, hun⟩
                refine sv_iload_n (i := 2) dX4_read_88 rfl rfl ?_
                refine sv_if_ne (tgt := 97) dX4_read_89 (by decide) (by first | omega | exact hin _ _ | decide | (simp [sv_u, sv_row]; omega) | (simp [sv_u, sv_row]; exact hin _ _) | exact hin1 _ _ | (simp [sv_u, sv_row]; exact hin1 _ _)) (fun h_89 => ?_) (fun h_89 => ?_)
                · refine sv_iload_n (i := 2) dX4_read_97 rfl rfl ?_
                  refine sv_istore dX4_read_98 (by decide) rfl ?_
                  first
                  | (refine g100 (m (29 * sp_slot m k + 1)) (by omega) (fun hh => ?_) (fun hh => ?_)
                     · unfold sp_rdv; rw [if_neg (by omega), if_neg (by omega), if_pos (by omega), sp_rz_self (by omega), sp_rz_self (by omega)]
                     · unfold sp_rdv; rw [if_neg (by omega), if_neg (by omega), if_neg (by omega)])
                  | (refine g100 F (by omega) (fun hh => ?_) (fun hh => ?_)
                     · unfold sp_rdv; rw [if_neg (by omega), if_neg (by omega), if_pos (by omega)]
                     · unfold sp_rdv; rw [if_neg (by omega), if_neg (by omega), if_neg (by omega)])
                · refine sv_iload dX4_read_92 rfl ?_
                  refine sv_goto (tgt := 98) dX4_read_94 (by decide) ?_
                  refine sv_istore dX4_read_98 (by decide) rfl ?_
                  first
                  | (refine g100 (m (29 * sp_slot m k + 1)) (by omega) (fun hh => ?_) (fun hh => ?_)
                     · unfold sp_rdv; rw [if_neg (by omega), if_neg (by omega), if_pos (by omega), sp_rz_self (by omega), sp_rz_self (by omega)]
                     · unfold sp_rdv; rw [if_neg (by omega), if_neg (by omega), if_neg (by omega)])
                  | (refine g100 F (by omega) (fun hh => ?_) (fun hh => ?_)
                     · unfold sp_rdv; rw [if_neg (by omega), if_neg (by omega), if_pos (by omega)]
                     · unfold sp_rdv; rw [if_neg (by omega), if_neg (by omega), if_neg (by omega)])
              · refine sv_bipush dX4_read_85 (by decide) ?_
                refine sv_ireturn dX4_read_87 rfl ?_
                exact ⟨_, rfl, rfl, rfl, rfl, by unfold sp_rdv; rw [if_neg (by omega), if_pos (by assumption)], hun⟩
            · refine sv_bipush dX4_read_57 (by decide) ?_
              refine sv_ireturn dX4_read_59 rfl ?_
              exact ⟨_, rfl, rfl, rfl, rfl, by unfold sp_rdv; rw [if_pos (by omega)], fun _ _ _ _ _ => rfl⟩
        · refine sv_bipush dX4_read_29 (by decide) ?_
          refine sv_ireturn dX4_read_31 rfl ?_
          exact ⟨_, rfl, rfl, rfl, rfl, by unfold sp_rdv; rw [if_pos (by omega)], fun _ _ _ _ _ => rfl⟩
