set_option maxRecDepth 100000 in
set_option maxHeartbeats 4000000 in
theorem c_X4_apart {X : sv_X} {S : sv_S} {f : sv_F} {r : sv_R} {g : sv_G} {V q d fo rs fi se pa sc : Nat} {kp fd : Int → Nat} {m : Int → Int} (hve : sv_K4 S r V q d fi se pa sc) (hmo : sv_K1 S r q kp) (hmv : sv_V1 f q kp m) (hre : sv_K2 S r d fo rs fd) (hw : sp_wt m) {tx vs : Nat} (hsc : sv_K3 S r sc tx vs) (hp : sv_sep V q fi se sc tx vs rs fd) (k p : Int) (hki : sv_in k) (hpi : sv_in p) : sv_C X 4 MX4_apart 0 0 [sv_r V, sv_i k, sv_i p] S f r g (sv_qi (fun a f' => a = sp_apt m k p ∧ sv_un rs fi se fd f f') S r g) := by
  refine sv_met (by decide) (by simp [lg_sl, sv_cv, va_rf, Value.category]) ?_
  refine sv_fr fun hin => ?_
  have hcc := hw.c
  refine sv_aload_n (i := 0) dX4_apart_0 rfl rfl ?_
  refine sv_getR (kz := 0) flX4_10 dX4_apart_1 rfl rfl hve.lt hve.k hve.r0 ?_
  refine sv_iload_n (i := 1) dX4_apart_4 rfl rfl ?_
  refine sv_vp0 (As := [_]) clX4_124 dX4_apart_5 ⟨_, rfl, rfl⟩ (by decide) rfl (Nat.le_of_ble_eq_true rfl) (by decide) (by decide) hmo.lt hmo.k (c_X1_placeOf hmo hmv hcc _ hki) ?_
  have hst := sp_slot_spec m k
  refine sv_istore_n (i := 3) dX4_apart_8 rfl (by decide) rfl ?_
  refine sv_aload_n (i := 0) dX4_apart_9 rfl rfl ?_
  refine sv_getR (kz := 0) flX4_10 dX4_apart_10 rfl rfl hve.lt hve.k hve.r0 ?_
  refine sv_iload_n (i := 2) dX4_apart_13 rfl rfl ?_
  refine sv_vp0 (As := [_]) clX4_124 dX4_apart_14 ⟨_, rfl, rfl⟩ (by decide) rfl (Nat.le_of_ble_eq_true rfl) (by decide) (by decide) hmo.lt hmo.k (c_X1_placeOf hmo hmv hcc _ hpi) ?_
  have hst2 := sp_slot_spec m p
  refine sv_istore dX4_apart_17 (by decide) rfl ?_
  refine sv_iload_n (i := 3) dX4_apart_19 rfl rfl ?_
  refine sv_iconst dX4_apart_20 ?_
  refine sv_icmp_eq (tgt := 30) dX4_apart_21 (by decide) (by first | omega | exact hin _ _ | decide | (simp [sv_u, sv_row]; omega) | (simp [sv_u, sv_row]; exact hin _ _) | exact hin1 _ _ | (simp [sv_u, sv_row]; exact hin1 _ _)) (by first | omega | exact hin _ _ | decide | (simp [sv_u, sv_row]; omega) | (simp [sv_u, sv_row]; exact hin _ _) | exact hin1 _ _ | (simp [sv_u, sv_row]; exact hin1 _ _)) (fun h_21 => ?_) (fun h_21 => ?_)
  · refine sv_bipush dX4_apart_30 (by decide) ?_
    refine sv_ireturn dX4_apart_32 rfl ?_
    exact ⟨_, rfl, rfl, rfl, rfl, by unfold sp_apt; rw [if_pos (by omega)], fun _ _ _ _ _ => rfl⟩
  · refine sv_iload dX4_apart_24 rfl ?_
    refine sv_iconst dX4_apart_26 ?_
    refine sv_icmp_ne (tgt := 33) dX4_apart_27 (by decide) (by first | omega | exact hin _ _ | decide | (simp [sv_u, sv_row]; omega) | (simp [sv_u, sv_row]; exact hin _ _) | exact hin1 _ _ | (simp [sv_u, sv_row]; exact hin1 _ _)) (by first | omega | exact hin _ _ | decide | (simp [sv_u, sv_row]; omega) | (simp [sv_u, sv_row]; exact hin _ _) | exact hin1 _ _ | (simp [sv_u, sv_row]; exact hin1 _ _)) (fun h_27 => ?_) (fun h_27 => ?_)
    · have hsn : sp_slot m k ≠ -1 := by assumption
      obtain ⟨s0, s1, s2⟩ := sp_slot_in hsn
      have hpn : sp_slot m p ≠ -1 := by assumption
      obtain ⟨p0, p1, p2⟩ := sp_slot_in hpn
      have hfm := hw.frm s0 s1
      have hfp := hw.frm p0 p1
      have hk := hmo.o (p := sp_slot m k) (by omega) (by omega)
      have hj := hmo.o (p := sp_slot m p) (by omega) (by omega)
      refine sv_aload_n (i := 0) dX4_apart_33 rfl rfl ?_
      refine sv_getR (kz := 4) flX4_34 dX4_apart_34 rfl rfl hve.lt hve.k hve.r4 ?_
      refine sv_aload_n (i := 0) dX4_apart_37 rfl rfl ?_
      refine sv_getR (kz := 0) flX4_10 dX4_apart_38 rfl rfl hve.lt hve.k hve.r0 ?_
      refine sv_vv0 (As := [_]) clX4_85 dX4_apart_41 ⟨_, rfl, rfl⟩ (by decide) rfl (Nat.le_of_ble_eq_true rfl) (by decide) (by decide) hre.lt hre.k (c_X2_readAll hmo hmv hre hp.2.2.1 hw hp.2.1) (fun f1 hf1 => ?_)
      obtain ⟨hr1, hv2⟩ := hf1
      have hun : sv_un rs fi se fd f f1 := fun x a b _ _ => hr1 x a b
      have hv1 : sv_V1 f1 q kp m := sv_V1.congr hmo hcc hmv fun x x0 x1 => hr1 x (by have := hp.2.1; omega) fun p p0 p1 => by have := hp.2.2.1 p p0 p1; omega
      obtain ⟨u1, u2, u3, u4⟩ := hp.un hun
      have hkv := hv1.o (s := sp_slot m k) (by omega) (by omega)
      have hjv := hv1.o (s := sp_slot m p) (by omega) (by omega)
      obtain ⟨vv1, vv2⟩ := hv2 _ s0 s1
      rw [s2] at vv1
      obtain ⟨wv1, wv2⟩ := hv2 _ p0 p1
      rw [p2] at wv1
      have hri1 := sp_R_in hw (n := k)
      have hri2 := sp_R_in hw (n := p)
      refine sv_aload_n (i := 0) dX4_apart_44 rfl rfl ?_
      refine sv_getR (kz := 4) flX4_34 dX4_apart_45 rfl rfl hve.lt hve.k hve.r4 ?_
      refine sv_getR (kz := 1) flX4_127 dX4_apart_48 rfl rfl hre.lt hre.k hre.r2 ?_
      refine sv_iload_n (i := 3) dX4_apart_51 rfl rfl ?_
      refine sv_iald dX4_apart_52 hre.l2 hre.s2 (by omega) ?_
      rw [vv1]
      refine sv_iconst dX4_apart_53 ?_
      refine sv_icmp_ne (tgt := 71) dX4_apart_54 (by decide) (by omega) (by first | omega | exact hin _ _ | decide | (simp [sv_u, sv_row]; omega) | (simp [sv_u, sv_row]; exact hin _ _) | exact hin1 _ _ | (simp [sv_u, sv_row]; exact hin1 _ _)) (fun h_54 => ?_) (fun h_54 => ?_)
      · refine sv_bipush dX4_apart_71 (by decide) ?_
        refine sv_ireturn dX4_apart_73 rfl ?_
        exact ⟨_, rfl, rfl, rfl, rfl, by unfold sp_apt; rw [if_neg (by omega), if_pos (by omega)], hun⟩
      · refine sv_aload_n (i := 0) dX4_apart_57 rfl rfl ?_
        refine sv_getR (kz := 4) flX4_34 dX4_apart_58 rfl rfl hve.lt hve.k hve.r4 ?_
        refine sv_getR (kz := 1) flX4_127 dX4_apart_61 rfl rfl hre.lt hre.k hre.r2 ?_
        refine sv_iload dX4_apart_64 rfl ?_
        refine sv_iald dX4_apart_66 hre.l2 hre.s2 (by omega) ?_
        rw [wv1]
        refine sv_iconst dX4_apart_67 ?_
        refine sv_icmp_eq (tgt := 74) dX4_apart_68 (by decide) (by omega) (by first | omega | exact hin _ _ | decide | (simp [sv_u, sv_row]; omega) | (simp [sv_u, sv_row]; exact hin _ _) | exact hin1 _ _ | (simp [sv_u, sv_row]; exact hin1 _ _)) (fun h_68 => ?_) (fun h_68 => ?_)
        · have hRk : sp_R m k = -1 := by assumption
          have hRp : sp_R m p = -1 := by assumption
          refine sv_aload_n (i := 0) dX4_apart_74 rfl rfl ?_
          refine sv_getR (kz := 0) flX4_10 dX4_apart_75 rfl rfl hve.lt hve.k hve.r0 ?_
          refine sv_getR (kz := 6) flX4_89 dX4_apart_78 rfl rfl hmo.lt hmo.k hmo.r3 ?_
          refine sv_iload_n (i := 3) dX4_apart_81 rfl rfl ?_
          refine sv_aald (t := 0) (n := 20) dX4_apart_82 hmo.l3 (by decide) hmo.s3 (by omega) (hmo.e (p := sp_slot m k) (by omega) (by omega)) ?_
          refine sv_getI (kz := 1) flX4_98 dX4_apart_83 rfl rfl hk.lt hk.k ?_
          rw [hkv.form]
          refine sv_aload_n (i := 0) dX4_apart_86 rfl rfl ?_
          refine sv_getR (kz := 0) flX4_10 dX4_apart_87 rfl rfl hve.lt hve.k hve.r0 ?_
          refine sv_getR (kz := 6) flX4_89 dX4_apart_90 rfl rfl hmo.lt hmo.k hmo.r3 ?_
          refine sv_iload dX4_apart_93 rfl ?_
          refine sv_aald (t := 0) (n := 20) dX4_apart_95 hmo.l3 (by decide) hmo.s3 (by omega) (hmo.e (p := sp_slot m p) (by omega) (by omega)) ?_
          refine sv_getI (kz := 1) flX4_98 dX4_apart_96 rfl rfl hj.lt hj.k ?_
          rw [hjv.form]
          refine sv_max (List.mem_of_getElem? (i := 502) (by decide +kernel)) sv_maxw (Nat.le_of_ble_eq_true rfl) (by decide) (by decide) (by omega) (by omega) dX4_apart_99 ?_
          refine sv_istore dX4_apart_102 (by decide) rfl ?_
          refine sv_aload_n (i := 0) dX4_apart_104 rfl rfl ?_
          refine sv_iload dX4_apart_105 rfl ?_
          refine sv_iload dX4_apart_107 rfl ?_
          refine sv_aload_n (i := 0) dX4_apart_109 rfl rfl ?_
          refine sv_getR (kz := 6) flX4_42 dX4_apart_110 rfl rfl hve.lt hve.k hve.r6 ?_
          refine sv_vv0 (As := [_, _, _]) clX4_113 dX4_apart_113 ⟨_, rfl, rfl⟩ (by decide) rfl (Nat.le_of_ble_eq_true rfl) (by decide) (by decide) hve.lt hve.k (c_X4_raiseRead hve hmo hv1 hre hw ⟨hve.l6, hve.s6⟩ (sp_slot m p) (max (m (29 * sp_slot m k + 1)) (m (29 * sp_slot m p + 1))) ⟨p0, p1⟩ (by omega) (by rw [p2]; exact hRp) (fun j j0 j1 => by rw [p2] at wv2 ⊢; exact wv2 hRp j j0 j1) ((hp.1 se (by simp)).2.2 _ p0 (by omega)) (hp.1 se (by simp)).1) (fun f2 hf2 => ?_)
          obtain ⟨e1, e2⟩ := hf2
          have hseq := (hp.1 se (by simp)).1
          have hvv : sv_V1 f2 q kp m := sv_V1.congr hmo hcc hv1 fun x x0 x1 => e1 x (by omega)
          refine sv_aload_n (i := 0) dX4_apart_116 rfl rfl ?_
          refine sv_iload_n (i := 3) dX4_apart_117 rfl rfl ?_
          refine sv_iload dX4_apart_118 rfl ?_
          refine sv_aload_n (i := 0) dX4_apart_120 rfl rfl ?_
          refine sv_getR (kz := 6) flX4_42 dX4_apart_121 rfl rfl hve.lt hve.k hve.r6 ?_
          refine sv_vi0 (As := [_, _, _]) clX4_170 dX4_apart_124 ⟨_, rfl, rfl⟩ (by decide) rfl (Nat.le_of_ble_eq_true rfl) (by decide) (by decide) hve.lt hve.k (c_X4_distance hve hmo hvv hre hw ⟨hve.l6, hve.s6⟩ (sp_slot m k) (max (m (29 * sp_slot m k + 1)) (m (29 * sp_slot m p + 1))) ⟨s0, s1⟩ (by omega) (by rw [s2]; exact hRk) (fun j j0 j1 => by rw [e1 _ (Ne.symm ((hp.1 se (by simp)).2.2 _ s0 (by omega))), s2]; rw [s2] at vv2; exact vv2 hRk j j0 j1) ((hp.1 fi (by simp)).2.2 _ s0 (by omega)) (hp.1 fi (by simp)).1 (Ne.symm hp.2.2.2.2.2.2.2)) (fun a f3 hf3 => ?_)
          refine sv_ireturn dX4_apart_127 rfl ?_
          refine ⟨_, rfl, rfl, rfl, rfl, ?_, (hun.tr fun x _ _ _ c => e1 x c).tr fun x _ _ c _ => hf3.2 x c⟩
          rw [hf3.1, s2]
          unfold sp_apt
          rw [if_neg (by omega), if_neg (by omega), sp_dn_comm]
          exact sp_dn_congr (fun j j0 j1 => by rw [e2 j j0 j1, p2]) (fun _ _ _ => rfl)
        · refine sv_bipush dX4_apart_71 (by decide) ?_
          refine sv_ireturn dX4_apart_73 rfl ?_
          exact ⟨_, rfl, rfl, rfl, rfl, by unfold sp_apt; rw [if_neg (by omega), if_pos (by omega)], hun⟩
    · refine sv_bipush dX4_apart_30 (by decide) ?_
      refine sv_ireturn dX4_apart_32 rfl ?_
      exact ⟨_, rfl, rfl, rfl, rfl, by unfold sp_apt; rw [if_pos (by omega)], fun _ _ _ _ _ => rfl⟩
