set_option maxRecDepth 100000 in
set_option maxHeartbeats 4000000 in
theorem c_X4_addPlace {X : sv_X} {S : sv_S} {f : sv_F} {r : sv_R} {g : sv_G} {V q d fo rs fi se pa sc : Nat} {kp fd : Int → Nat} {m : Int → Int} (hve : sv_K4 S r V q d fi se pa sc) (hmo : sv_K1 S r q kp) (hmv : sv_V1 f q kp m) (hre : sv_K2 S r d fo rs fd) (hw : sp_wt m) (hv2 : sv_V2 f rs fd m (m 580)) (h : Int64) (s : Int) (hs : 0 ≤ s ∧ s < m 580) : sv_C X 4 MX4_addPlace 0 0 [sv_r V, sv_l h, sv_i s] S f r g (sv_qp (some (sv_l (sp_hk m s h))) S f r g) := by
  refine sv_met (by decide) (by simp [lg_sl, sv_cv, va_rf, Value.category]) ?_
  refine sv_fr fun hin => ?_
  have hcc := hw.c
  have hcm := hw.cm
  have hnm := hw.num hs.1 hs.2
  have hmy := hw.many hs.1 hs.2
  have hk := hmo.o (p := s) (by omega) (by omega)
  have hkv := hmv.o (s := s) (by omega) (by omega)
  have hca : sp_cau m (m (29 * s)) 0 0 = sp_R m (m (29 * s)) := by
    have hl := (sp_lk_bd hw hnm.1).1
    have hz : sp_ch m (m (29 * s)) (0 : Int).toNat = m (29 * s) := rfl
    unfold sp_cau
    rw [if_neg (by omega), hz]
    split <;> first | omega | (rw [if_pos rfl])
  have l2 : ∀ (kk : Nat) (i : Nat), m (29 * s + 4) - (i : Int) < (kk : Int) → ((i : Int) ≤ m (29 * s + 4)) → sv_T X (sv_rm 4 0 0) MX4_addPlace (sv_Zm X 0 0 (sv_qp (some (sv_l (sp_hk m s h))) S f r g)) 0 0 61 [some (sv_r V), some (sv_l h), none, some (sv_i s), some (sv_r (kp s)), some (sv_l (sp_h2 (fun i => m (29 * s + (5 + i))) (fun i => m (29 * s + (17 + i))) (sp_hf (fun w => sp_part m s w) (sp_hx h (m (29 * s))) 8) i)), none, some (sv_i (i : Nat))] [] S (f) r g := by
    intro kk
    induction kk with
    | zero =>
      intro i hkk h1
      exact absurd hkk (by omega)
    | succ kk ih =>
      intro i hkk h1
      refine sv_iload dX4_addPlace_61 rfl ?_
      refine sv_aload dX4_addPlace_63 rfl ?_
      refine sv_getI (kz := 4) flX4_149 dX4_addPlace_65 rfl rfl hk.lt hk.k ?_
      rw [hkv.size]
      refine sv_icmp_ge (tgt := 113) dX4_addPlace_68 (by decide) (by omega) (by omega) (fun h_68 => ?_) (fun h_68 => ?_)
      · refine sv_ldc2 (n := 31) dX4_addPlace_113 (List.mem_of_getElem? (i := 625) (by decide +kernel)) ?_
        refine sv_lload dX4_addPlace_116 rfl ?_
        refine sv_lmul dX4_addPlace_118 ?_
        refine sv_aload_n (i := 0) dX4_addPlace_119 rfl rfl ?_
        refine sv_aload dX4_addPlace_120 rfl ?_
        refine sv_getI (kz := 0) flX4_93 dX4_addPlace_122 rfl rfl hk.lt hk.k ?_
        rw [hkv.num]
        refine sv_vp0 (As := [_]) clX4_215 dX4_addPlace_125 ⟨_, rfl, rfl⟩ (by decide) rfl (Nat.le_of_ble_eq_true rfl) (by decide) (by decide) hve.lt hve.k (c_X4_reasonOf hve hmo hmv hre hw hv2 _ (by omega)) ?_
        refine sv_i2l dX4_addPlace_128 ?_
        refine sv_ladd dX4_addPlace_129 ?_
        refine sv_lreturn dX4_addPlace_130 rfl ?_
        exact ⟨by unfold sp_hk; rw [hca, show (m (29 * s + 4)).toNat = i by omega]; rfl, rfl, rfl, rfl, rfl⟩
      · refine sv_ldc2 (n := 31) dX4_addPlace_71 (List.mem_of_getElem? (i := 625) (by decide +kernel)) ?_
        refine sv_lload dX4_addPlace_74 rfl ?_
        refine sv_lmul dX4_addPlace_76 ?_
        refine sv_aload dX4_addPlace_77 rfl ?_
        refine sv_getR (kz := 5) flX4_163 dX4_addPlace_79 rfl rfl hk.lt hk.k hk.r1 ?_
        refine sv_iload dX4_addPlace_82 rfl ?_
        refine sv_iald dX4_addPlace_84 hk.l1 hk.s1 (by omega) ?_
        rw [hkv.idx (by omega) (by omega)]
        refine sv_i2l dX4_addPlace_85 ?_
        refine sv_ladd dX4_addPlace_86 ?_
        refine sv_lstore dX4_addPlace_87 (by decide) rfl ?_
        refine sv_ldc2 (n := 31) dX4_addPlace_89 (List.mem_of_getElem? (i := 625) (by decide +kernel)) ?_
        refine sv_lload dX4_addPlace_92 rfl ?_
        refine sv_lmul dX4_addPlace_94 ?_
        refine sv_aload dX4_addPlace_95 rfl ?_
        refine sv_getR (kz := 6) flX4_150 dX4_addPlace_97 rfl rfl hk.lt hk.k hk.r2 ?_
        refine sv_iload dX4_addPlace_100 rfl ?_
        refine sv_iald dX4_addPlace_102 hk.l2 hk.s2 (by omega) ?_
        rw [hkv.val (by omega) (by omega)]
        refine sv_i2l dX4_addPlace_103 ?_
        refine sv_ladd dX4_addPlace_104 ?_
        refine sv_lstore dX4_addPlace_105 (by decide) rfl ?_
        refine sv_iinc dX4_addPlace_107 rfl (by decide) rfl ?_
        refine sv_goto (tgt := 61) dX4_addPlace_110 (by decide) ?_
        exact sv_cast (ih (i + 1) (by omega) (by omega)) rfl rfl rfl rfl rfl rfl
  have l1 : ∀ (kk : Nat) (i : Nat), 8 - (i : Int) < (kk : Int) → ((i : Int) ≤ 8) → sv_T X (sv_rm 4 0 0) MX4_addPlace (sv_Zm X 0 0 (sv_qp (some (sv_l (sp_hk m s h))) S f r g)) 0 0 28 [some (sv_r V), some (sv_l h), none, some (sv_i s), some (sv_r (kp s)), some (sv_l (sp_hf (fun w => sp_part m s w) (sp_hx h (m (29 * s))) i)), none, some (sv_i (i : Nat))] [] S (f) r g := by
    intro kk
    induction kk with
    | zero =>
      intro i hkk h1
      exact absurd hkk (by omega)
    | succ kk ih =>
      intro i hkk h1
      refine sv_iload dX4_addPlace_28 rfl ?_
      refine sv_bipush dX4_addPlace_30 (by decide) ?_
      refine sv_icmp_ge (tgt := 58) dX4_addPlace_32 (by decide) (by first | omega | exact hin _ _ | decide | (simp [sv_u, sv_row]; omega) | (simp [sv_u, sv_row]; exact hin _ _) | exact hin1 _ _ | (simp [sv_u, sv_row]; exact hin1 _ _)) (by first | omega | exact hin _ _ | decide | (simp [sv_u, sv_row]; omega) | (simp [sv_u, sv_row]; exact hin _ _) | exact hin1 _ _ | (simp [sv_u, sv_row]; exact hin1 _ _)) (fun h_32 => ?_) (fun h_32 => ?_)
      · refine sv_iconst dX4_addPlace_58 ?_
        refine sv_istore dX4_addPlace_59 (by decide) rfl ?_
        obtain rfl : i = 8 := by omega
        exact l2 (m (29 * s + 4) + 1).toNat 0 (by omega) (by omega)
      · refine sv_ldc2 (n := 31) dX4_addPlace_35 (List.mem_of_getElem? (i := 625) (by decide +kernel)) ?_
        refine sv_lload dX4_addPlace_38 rfl ?_
        refine sv_lmul dX4_addPlace_40 ?_
        refine sv_aload_n (i := 0) dX4_addPlace_41 rfl rfl ?_
        refine sv_iload_n (i := 3) dX4_addPlace_42 rfl rfl ?_
        refine sv_iload dX4_addPlace_43 rfl ?_
        refine sv_vp0 (As := [_, _]) clX4_160 dX4_addPlace_45 ⟨_, rfl, rfl⟩ (by decide) rfl (Nat.le_of_ble_eq_true rfl) (by decide) (by decide) hve.lt hve.k (c_X4_propertyOf hve hmo hmv hre hw hv2 s _ hs (by omega)) ?_
        refine sv_i2l dX4_addPlace_48 ?_
        refine sv_ladd dX4_addPlace_49 ?_
        refine sv_lstore dX4_addPlace_50 (by decide) rfl ?_
        refine sv_iinc dX4_addPlace_52 rfl (by decide) rfl ?_
        refine sv_goto (tgt := 28) dX4_addPlace_55 (by decide) ?_
        exact sv_cast (ih (i + 1) (by omega) (by omega)) rfl rfl rfl rfl rfl rfl
  refine sv_aload_n (i := 0) dX4_addPlace_0 rfl rfl ?_
  refine sv_getR (kz := 0) flX4_10 dX4_addPlace_1 rfl rfl hve.lt hve.k hve.r0 ?_
  refine sv_getR (kz := 6) flX4_89 dX4_addPlace_4 rfl rfl hmo.lt hmo.k hmo.r3 ?_
  refine sv_iload_n (i := 3) dX4_addPlace_7 rfl rfl ?_
  refine sv_aald (t := 0) (n := 20) dX4_addPlace_8 hmo.l3 (by decide) hmo.s3 (by omega) (hmo.e (p := s) (by omega) (by omega)) ?_
  refine sv_astore dX4_addPlace_9 (by decide) rfl ?_
  refine sv_ldc2 (n := 31) dX4_addPlace_11 (List.mem_of_getElem? (i := 625) (by decide +kernel)) ?_
  refine sv_lload_n (i := 1) dX4_addPlace_14 rfl rfl ?_
  refine sv_lmul dX4_addPlace_15 ?_
  refine sv_aload dX4_addPlace_16 rfl ?_
  refine sv_getI (kz := 0) flX4_93 dX4_addPlace_18 rfl rfl hk.lt hk.k ?_
  rw [hkv.num]
  refine sv_i2l dX4_addPlace_21 ?_
  refine sv_ladd dX4_addPlace_22 ?_
  refine sv_lstore dX4_addPlace_23 (by decide) rfl ?_
  refine sv_iconst dX4_addPlace_25 ?_
  refine sv_istore dX4_addPlace_26 (by decide) rfl ?_
  exact l1 9 0 (by omega) (by omega)
set_option maxRecDepth 100000 in
set_option maxHeartbeats 4000000 in
theorem c_X4_clear {X : sv_X} {S : sv_S} {f : sv_F} {r : sv_R} {g : sv_G} {V q d fo rs fi se pa sc : Nat} {kp fd : Int → Nat} {m : Int → Int} (hve : sv_K4 S r V q d fi se pa sc) (hmo : sv_K1 S r q kp) (hmv : sv_V1 f q kp m) (hre : sv_K2 S r d fo rs fd) (hw : sp_wt m) {tx vs : Nat} (hsc : sv_K3 S r sc tx vs) : sv_C X 0 MX4_clear 0 0 [sv_r V] S f r g (sv_qi (fun b f' => b = f sc 1 ∧ f' = sv_u f sc 1 0) S r g) := by
  refine sv_met (by decide) (by simp [lg_sl, sv_cv, va_rf, Value.category]) ?_
  refine sv_fr fun hin => ?_
  refine sv_aload_n (i := 0) dX4_clear_0 rfl rfl ?_
  refine sv_getR (kz := 3) flX4_27 dX4_clear_1 rfl rfl hve.lt hve.k hve.r3 ?_
  refine sv_getI (kz := 1) flX4_45 dX4_clear_4 rfl rfl hsc.lt hsc.k ?_
  refine sv_istore_n (i := 1) dX4_clear_7 rfl (by decide) rfl ?_
  refine sv_aload_n (i := 0) dX4_clear_8 rfl rfl ?_
  refine sv_getR (kz := 3) flX4_27 dX4_clear_9 rfl rfl hve.lt hve.k hve.r3 ?_
  refine sv_iconst dX4_clear_12 ?_
  refine sv_putI (kz := 1) flX4_45 dX4_clear_13 (Or.inl rfl) rfl rfl hsc.lt hsc.k (by first | omega | exact hin _ _ | decide | (simp [sv_u, sv_row]; omega) | (simp [sv_u, sv_row]; exact hin _ _) | exact hin1 _ _ | (simp [sv_u, sv_row]; exact hin1 _ _)) ?_
  refine sv_iload_n (i := 1) dX4_clear_16 rfl rfl ?_
  refine sv_ireturn dX4_clear_17 rfl ?_
  exact ⟨_, rfl, rfl, rfl, rfl, rfl, rfl⟩
set_option maxRecDepth 100000 in
set_option maxHeartbeats 4000000 in
theorem c_X4_type {X : sv_X} {S : sv_S} {f : sv_F} {r : sv_R} {g : sv_G} {V q d fo rs fi se pa sc : Nat} {kp fd : Int → Nat} {m : Int → Int} (hve : sv_K4 S r V q d fi se pa sc) (hmo : sv_K1 S r q kp) (hmv : sv_V1 f q kp m) (hre : sv_K2 S r d fo rs fd) (hw : sp_wt m) {tx vs : Nat} (hsc : sv_K3 S r sc tx vs) (h10 : 0 ≤ f sc 1 ∧ f sc 1 ≤ 80) (a : Int) (ha : sv_in a) : sv_C X 0 MX4_type 0 0 [sv_r V, sv_i a] S f r g (sv_qi (fun b f' => (¬ (0 ≤ a ∧ a ≤ 127) ∧ b = -2 ∧ f' = f) ∨ (0 ≤ a ∧ a ≤ 127 ∧ f sc 1 = 80 ∧ b = -4 ∧ f' = f) ∨ (0 ≤ a ∧ a ≤ 127 ∧ f sc 1 < 80 ∧ b = f sc 1 + 1 ∧ f' = sv_u (sv_u f tx (f sc 1) a) sc 1 (f sc 1 + 1))) S r g) := by
  refine sv_met (by decide) (by simp [lg_sl, sv_cv, va_rf, Value.category]) ?_
  refine sv_fr fun hin => ?_
  have hne : tx ≠ sc := hsc.2.2.2.2.1
  refine sv_iload_n (i := 1) dX4_type_0 rfl rfl ?_
  refine sv_if_lt (tgt := 10) dX4_type_1 (by decide) (by first | omega | exact hin _ _ | decide | (simp [sv_u, sv_row]; omega) | (simp [sv_u, sv_row]; exact hin _ _) | exact hin1 _ _ | (simp [sv_u, sv_row]; exact hin1 _ _)) (fun h_1 => ?_) (fun h_1 => ?_)
  · refine sv_bipush dX4_type_10 (by decide) ?_
    refine sv_ireturn dX4_type_12 rfl ?_
    exact ⟨_, rfl, rfl, rfl, rfl, Or.inl ⟨by omega, rfl, rfl⟩⟩
  · refine sv_iload_n (i := 1) dX4_type_4 rfl rfl ?_
    refine sv_bipush dX4_type_5 (by decide) ?_
    refine sv_icmp_le (tgt := 13) dX4_type_7 (by decide) (by first | omega | exact hin _ _ | decide | (simp [sv_u, sv_row]; omega) | (simp [sv_u, sv_row]; exact hin _ _) | exact hin1 _ _ | (simp [sv_u, sv_row]; exact hin1 _ _)) (by first | omega | exact hin _ _ | decide | (simp [sv_u, sv_row]; omega) | (simp [sv_u, sv_row]; exact hin _ _) | exact hin1 _ _ | (simp [sv_u, sv_row]; exact hin1 _ _)) (fun h_7 => ?_) (fun h_7 => ?_)
    · refine sv_aload_n (i := 0) dX4_type_13 rfl rfl ?_
      refine sv_getR (kz := 3) flX4_27 dX4_type_14 rfl rfl hve.lt hve.k hve.r3 ?_
      refine sv_getI (kz := 1) flX4_45 dX4_type_17 rfl rfl hsc.lt hsc.k ?_
      refine sv_bipush dX4_type_20 (by decide) ?_
      refine sv_icmp_lt (tgt := 28) dX4_type_22 (by decide) (by first | omega | exact hin _ _ | decide | (simp [sv_u, sv_row]; omega) | (simp [sv_u, sv_row]; exact hin _ _) | exact hin1 _ _ | (simp [sv_u, sv_row]; exact hin1 _ _)) (by first | omega | exact hin _ _ | decide | (simp [sv_u, sv_row]; omega) | (simp [sv_u, sv_row]; exact hin _ _) | exact hin1 _ _ | (simp [sv_u, sv_row]; exact hin1 _ _)) (fun h_22 => ?_) (fun h_22 => ?_)
      · refine sv_aload_n (i := 0) dX4_type_28 rfl rfl ?_
        refine sv_getR (kz := 3) flX4_27 dX4_type_29 rfl rfl hve.lt hve.k hve.r3 ?_
        refine sv_getR (kz := 0) flX4_48 dX4_type_32 rfl rfl hsc.lt hsc.k hsc.r0 ?_
        refine sv_aload_n (i := 0) dX4_type_35 rfl rfl ?_
        refine sv_getR (kz := 3) flX4_27 dX4_type_36 rfl rfl hve.lt hve.k hve.r3 ?_
        refine sv_getI (kz := 1) flX4_45 dX4_type_39 rfl rfl hsc.lt hsc.k ?_
        refine sv_iload_n (i := 1) dX4_type_42 rfl rfl ?_
        refine sv_iast dX4_type_43 hsc.l0 hsc.s0 (by omega) (by first | omega | exact hin _ _ | decide | (simp [sv_u, sv_row]; omega) | (simp [sv_u, sv_row]; exact hin _ _) | exact hin1 _ _ | (simp [sv_u, sv_row]; exact hin1 _ _)) ?_
        refine sv_aload_n (i := 0) dX4_type_44 rfl rfl ?_
        refine sv_getR (kz := 3) flX4_27 dX4_type_45 rfl rfl hve.lt hve.k hve.r3 ?_
        refine sv_dup dX4_type_48 rfl ?_
        refine sv_getI (kz := 1) flX4_45 dX4_type_49 rfl rfl hsc.lt hsc.k ?_
        rw [show sv_u f tx (f sc 1) a sc 1 = f sc 1 by rw [sv_u_ne (Ne.symm hne)]]
        refine sv_iconst dX4_type_52 ?_
        refine sv_iadd dX4_type_53 ?_
        refine sv_putI (kz := 1) flX4_45 dX4_type_54 (Or.inl rfl) rfl rfl hsc.lt hsc.k (by first | omega | exact hin _ _ | decide | (simp [sv_u, sv_row]; omega) | (simp [sv_u, sv_row]; exact hin _ _) | exact hin1 _ _ | (simp [sv_u, sv_row]; exact hin1 _ _)) ?_
        refine sv_aload_n (i := 0) dX4_type_57 rfl rfl ?_
        refine sv_getR (kz := 3) flX4_27 dX4_type_58 rfl rfl hve.lt hve.k hve.r3 ?_
        refine sv_getI (kz := 1) flX4_45 dX4_type_61 rfl rfl hsc.lt hsc.k ?_
        refine sv_ireturn dX4_type_64 rfl ?_
        exact ⟨_, rfl, rfl, rfl, rfl, Or.inr (Or.inr ⟨by omega, by omega, by omega, by simp [sv_u], rfl⟩)⟩
      · refine sv_bipush dX4_type_25 (by decide) ?_
        refine sv_ireturn dX4_type_27 rfl ?_
        exact ⟨_, rfl, rfl, rfl, rfl, Or.inr (Or.inl ⟨by omega, by omega, by omega, rfl, rfl⟩)⟩
    · refine sv_bipush dX4_type_10 (by decide) ?_
      refine sv_ireturn dX4_type_12 rfl ?_
      exact ⟨_, rfl, rfl, rfl, rfl, Or.inl ⟨by omega, rfl, rfl⟩⟩
