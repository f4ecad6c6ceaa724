set_option maxRecDepth 100000 in
set_option maxHeartbeats 4000000 in
theorem c_X4_propertyOf {X : sv_X} {S : sv_S} {f : sv_F} {r : sv_R} {g : sv_G} {V q d fo rs fi se pa sc : Nat} {kp fd : Int → Nat} {m : Int → Int} (hve : sv_K4 S r V q d fi se pa sc) (hmo : sv_K1 S r q kp) (hmv : sv_V1 f q kp m) (hre : sv_K2 S r d fo rs fd) (hw : sp_wt m) (hv2 : sv_V2 f rs fd m (m 580)) (s w : Int) (hs : 0 ≤ s ∧ s < m 580) (hw7 : 0 ≤ w ∧ w ≤ 7) : sv_C X 3 MX4_propertyOf 0 0 [sv_r V, sv_i s, sv_i w] S f r g (sv_qp (some (sv_i (sp_part m s w))) S f r g) := by
  refine sv_met (by decide) (by simp [lg_sl, sv_cv, va_rf, Value.category]) ?_
  refine sv_fr fun hin => ?_
  have hcc := hw.c
  have hcm := hw.cm
  have hnm := hw.num hs.1 hs.2
  have hfr := hw.frm hs.1 hs.2
  have hk := hmo.o (p := s) (by omega) (by omega)
  have hkv := hmv.o (s := s) (by omega) (by omega)
  obtain ⟨v1, v2⟩ := hv2 s hs.1 hs.2
  have hRi := sp_R_in hw (n := m (29 * s))
  have g0 : w = 0 → sv_T X (sv_rm 3 0 0) MX4_propertyOf (sv_Zm X 0 0 (sv_qp (some (sv_i (sp_part m s w))) S f r g)) 0 0 52 [some (sv_r V), some (sv_i s), some (sv_i w), some (sv_r (kp s))] [] S (f) r g := by
    intro e
    refine sv_aload_n (i := 3) dX4_propertyOf_52 rfl rfl ?_
    refine sv_getI (kz := 1) flX4_98 dX4_propertyOf_53 rfl rfl hk.lt hk.k ?_
    rw [hkv.form]
    refine sv_ireturn dX4_propertyOf_56 rfl ?_
    exact ⟨by subst e; simp [sp_part, sp_we, *], rfl, rfl, rfl, rfl⟩
  have g1 : w = 1 → sv_T X (sv_rm 3 0 0) MX4_propertyOf (sv_Zm X 0 0 (sv_qp (some (sv_i (sp_part m s w))) S f r g)) 0 0 57 [some (sv_r V), some (sv_i s), some (sv_i w), some (sv_r (kp s))] [] S (f) r g := by
    intro e
    refine sv_aload_n (i := 3) dX4_propertyOf_57 rfl rfl ?_
    refine sv_getI (kz := 2) flX4_102 dX4_propertyOf_58 rfl rfl hk.lt hk.k ?_
    rw [hkv.sum]
    refine sv_ireturn dX4_propertyOf_61 rfl ?_
    exact ⟨by subst e; simp [sp_part, sp_we, *], rfl, rfl, rfl, rfl⟩
  have g2 : w = 2 → sv_T X (sv_rm 3 0 0) MX4_propertyOf (sv_Zm X 0 0 (sv_qp (some (sv_i (sp_part m s w))) S f r g)) 0 0 62 [some (sv_r V), some (sv_i s), some (sv_i w), some (sv_r (kp s))] [] S (f) r g := by
    intro e
    refine sv_aload_n (i := 3) dX4_propertyOf_62 rfl rfl ?_
    refine sv_getI (kz := 3) flX4_198 dX4_propertyOf_63 rfl rfl hk.lt hk.k ?_
    rw [hkv.base]
    refine sv_ireturn dX4_propertyOf_66 rfl ?_
    exact ⟨by subst e; simp [sp_part, sp_we, *], rfl, rfl, rfl, rfl⟩
  have g3 : w = 3 → sv_T X (sv_rm 3 0 0) MX4_propertyOf (sv_Zm X 0 0 (sv_qp (some (sv_i (sp_part m s w))) S f r g)) 0 0 67 [some (sv_r V), some (sv_i s), some (sv_i w), some (sv_r (kp s))] [] S (f) r g := by
    intro e
    refine sv_aload_n (i := 3) dX4_propertyOf_67 rfl rfl ?_
    refine sv_getI (kz := 4) flX4_149 dX4_propertyOf_68 rfl rfl hk.lt hk.k ?_
    rw [hkv.size]
    refine sv_ireturn dX4_propertyOf_71 rfl ?_
    exact ⟨by subst e; simp [sp_part, sp_we, *], rfl, rfl, rfl, rfl⟩
  have g4 : w = 4 → sv_T X (sv_rm 3 0 0) MX4_propertyOf (sv_Zm X 0 0 (sv_qp (some (sv_i (sp_part m s w))) S f r g)) 0 0 72 [some (sv_r V), some (sv_i s), some (sv_i w), some (sv_r (kp s))] [] S (f) r g := by
    intro e
    refine sv_aload_n (i := 0) dX4_propertyOf_72 rfl rfl ?_
    refine sv_getR (kz := 0) flX4_10 dX4_propertyOf_73 rfl rfl hve.lt hve.k hve.r0 ?_
    refine sv_aload_n (i := 3) dX4_propertyOf_76 rfl rfl ?_
    refine sv_getI (kz := 0) flX4_93 dX4_propertyOf_77 rfl rfl hk.lt hk.k ?_
    rw [hkv.num]
    refine sv_vp0 (As := [_]) clX4_195 dX4_propertyOf_80 ⟨_, rfl, rfl⟩ (by decide) rfl (Nat.le_of_ble_eq_true rfl) (by decide) (by decide) hmo.lt hmo.k (c_X1_linksOf hmo hmv hw _ (by omega)) ?_
    refine sv_ireturn dX4_propertyOf_83 rfl ?_
    exact ⟨by subst e; simp [sp_part, sp_we, *], rfl, rfl, rfl, rfl⟩
  have g5 : w = 5 → sv_T X (sv_rm 3 0 0) MX4_propertyOf (sv_Zm X 0 0 (sv_qp (some (sv_i (sp_part m s w))) S f r g)) 0 0 84 [some (sv_r V), some (sv_i s), some (sv_i w), some (sv_r (kp s))] [] S (f) r g := by
    intro e
    refine sv_aload_n (i := 0) dX4_propertyOf_84 rfl rfl ?_
    refine sv_getR (kz := 4) flX4_34 dX4_propertyOf_85 rfl rfl hve.lt hve.k hve.r4 ?_
    refine sv_getR (kz := 1) flX4_127 dX4_propertyOf_88 rfl rfl hre.lt hre.k hre.r2 ?_
    refine sv_iload_n (i := 1) dX4_propertyOf_91 rfl rfl ?_
    refine sv_iald dX4_propertyOf_92 hre.l2 hre.s2 (by omega) ?_
    rw [v1]
    refine sv_iconst dX4_propertyOf_93 ?_
    refine sv_icmp_ne (tgt := 101) dX4_propertyOf_94 (by decide) (by omega) (by decide) (fun h_94 => ?_) (fun h_94 => ?_)
    · refine sv_iconst dX4_propertyOf_101 ?_
      refine sv_ireturn dX4_propertyOf_102 rfl ?_
      exact ⟨by subst e; simp [sp_part, sp_we, *], rfl, rfl, rfl, rfl⟩
    · refine sv_iconst dX4_propertyOf_97 ?_
      refine sv_goto (tgt := 102) dX4_propertyOf_98 (by decide) ?_
      refine sv_ireturn dX4_propertyOf_102 rfl ?_
      exact ⟨by subst e; simp [sp_part, sp_we, *], rfl, rfl, rfl, rfl⟩
  have g6 : w = 6 → sv_T X (sv_rm 3 0 0) MX4_propertyOf (sv_Zm X 0 0 (sv_qp (some (sv_i (sp_part m s w))) S f r g)) 0 0 103 [some (sv_r V), some (sv_i s), some (sv_i w), some (sv_r (kp s))] [] S (f) r g := by
    intro e
    refine sv_aload_n (i := 3) dX4_propertyOf_103 rfl rfl ?_
    refine sv_vp0 (As := []) clX4_205 dX4_propertyOf_104 ⟨_, rfl, rfl⟩ (by decide) rfl (Nat.le_of_ble_eq_true rfl) (by decide) (by decide) hk.lt hk.k (c_X0_weight hk) ?_
    rw [hkv.base, hkv.size]
    refine sv_ireturn dX4_propertyOf_107 rfl ?_
    exact ⟨by subst e; simp [sp_part, sp_we, *], rfl, rfl, rfl, rfl⟩
  have g7 : w = 7 → sv_T X (sv_rm 3 0 0) MX4_propertyOf (sv_Zm X 0 0 (sv_qp (some (sv_i (sp_part m s w))) S f r g)) 0 0 108 [some (sv_r V), some (sv_i s), some (sv_i w), some (sv_r (kp s))] [] S (f) r g := by
    intro e
    refine sv_aload_n (i := 0) dX4_propertyOf_108 rfl rfl ?_
    refine sv_getR (kz := 0) flX4_10 dX4_propertyOf_109 rfl rfl hve.lt hve.k hve.r0 ?_
    refine sv_aload_n (i := 3) dX4_propertyOf_112 rfl rfl ?_
    refine sv_getI (kz := 0) flX4_93 dX4_propertyOf_113 rfl rfl hk.lt hk.k ?_
    rw [hkv.num]
    refine sv_vp0 (As := [_]) clX4_146 dX4_propertyOf_116 ⟨_, rfl, rfl⟩ (by decide) rfl (Nat.le_of_ble_eq_true rfl) (by decide) (by decide) hmo.lt hmo.k (c_X1_followersOf hmo hmv hcc _ (by omega)) ?_
    refine sv_ireturn dX4_propertyOf_119 rfl ?_
    exact ⟨by subst e; simp [sp_part, sp_we, *], rfl, rfl, rfl, rfl⟩
  refine sv_aload_n (i := 0) dX4_propertyOf_0 rfl rfl ?_
  refine sv_getR (kz := 0) flX4_10 dX4_propertyOf_1 rfl rfl hve.lt hve.k hve.r0 ?_
  refine sv_getR (kz := 6) flX4_89 dX4_propertyOf_4 rfl rfl hmo.lt hmo.k hmo.r3 ?_
  refine sv_iload_n (i := 1) dX4_propertyOf_7 rfl rfl ?_
  refine sv_aald (t := 0) (n := 20) dX4_propertyOf_8 hmo.l3 (by decide) hmo.s3 (by omega) (hmo.e (p := s) (by omega) (by omega)) ?_
  refine sv_astore_n (i := 3) dX4_propertyOf_9 rfl (by decide) rfl ?_
  refine sv_iload_n (i := 2) dX4_propertyOf_10 rfl rfl ?_
  by_cases e0 : w = 0
  · exact sv_tsw (off := 41) (tgt := 52) dX4_propertyOf_11 (by omega) (by omega) (by omega) (by rw [e0]; rfl) (by decide) (g0 e0)
  by_cases e1 : w = 1
  · exact sv_tsw (off := 46) (tgt := 57) dX4_propertyOf_11 (by omega) (by omega) (by omega) (by rw [e1]; rfl) (by decide) (g1 e1)
  by_cases e2 : w = 2
  · exact sv_tsw (off := 51) (tgt := 62) dX4_propertyOf_11 (by omega) (by omega) (by omega) (by rw [e2]; rfl) (by decide) (g2 e2)
  by_cases e3 : w = 3
  · exact sv_tsw (off := 56) (tgt := 67) dX4_propertyOf_11 (by omega) (by omega) (by omega) (by rw [e3]; rfl) (by decide) (g3 e3)
  by_cases e4 : w = 4
  · exact sv_tsw (off := 61) (tgt := 72) dX4_propertyOf_11 (by omega) (by omega) (by omega) (by rw [e4]; rfl) (by decide) (g4 e4)
  by_cases e5 : w = 5
  · exact sv_tsw (off := 73) (tgt := 84) dX4_propertyOf_11 (by omega) (by omega) (by omega) (by rw [e5]; rfl) (by decide) (g5 e5)
  by_cases e6 : w = 6
  · exact sv_tsw (off := 92) (tgt := 103) dX4_propertyOf_11 (by omega) (by omega) (by omega) (by rw [e6]; rfl) (by decide) (g6 e6)
  exact sv_tswd (tgt := 108) dX4_propertyOf_11 (by omega) (Or.inr (by omega)) (by decide) (g7 (by omega))
