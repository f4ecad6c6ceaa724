set_option maxRecDepth 100000 in
set_option maxHeartbeats 4000000 in
theorem c_X4_digest {X : sv_X} {S : sv_S} {f : sv_F} {r : sv_R} {g : sv_G} {V q d fo rs fi se pa sc : Nat} {kp fd : Int → Nat} {m : Int → Int} (hve : sv_K4 S r V q d fi se pa sc) (hmo : sv_K1 S r q kp) (hmv : sv_V1 f q kp m) (hre : sv_K2 S r d fo rs fd) (hw : sp_wt m) {tx vs : Nat} (hsc : sv_K3 S r sc tx vs) (hp : sv_sep V q fi se sc tx vs rs fd) (hg : sp_wg m) (h10 : 0 ≤ f sc 1 ∧ f sc 1 ≤ 80) : sv_C X 5 MX4_digest 0 0 [sv_r V] S f r g ((fun rv' S' f' r' g' => rv' = some (sv_l (sp_dig m (f V 2) (f sc 1) (f tx))) ∧ S' = S ∧ r' = r ∧ g' = g ∧ sv_un rs fi se fd f f')) := by
  refine sv_met (by decide) (by simp [lg_sl, sv_cv, va_rf, Value.category]) ?_
  refine sv_fr fun hin => ?_
  have hcc := hw.c
  have hgf := hg.f
  refine sv_aload_n (i := 0) dX4_digest_0 rfl rfl ?_
  refine sv_getR (kz := 4) flX4_34 dX4_digest_1 rfl rfl hve.lt hve.k hve.r4 ?_
  refine sv_aload_n (i := 0) dX4_digest_4 rfl rfl ?_
  refine sv_getR (kz := 0) flX4_10 dX4_digest_5 rfl rfl hve.lt hve.k hve.r0 ?_
  refine sv_vv0 (As := [_]) clX4_85 dX4_digest_8 ⟨_, rfl, rfl⟩ (by decide) rfl (Nat.le_of_ble_eq_true rfl) (by decide) (by decide) hre.lt hre.k (c_X2_readAll hmo hmv hre hp.2.2.1 hw hp.2.1) (fun f1 hf1 => ?_)
  obtain ⟨hr1, hv2⟩ := hf1
  have hun : sv_un rs fi se fd f f1 := fun x a b _ _ => hr1 x a b
  have hv1 : sv_V1 f1 q kp m := sv_V1.congr hmo hcc hmv fun x x0 x1 => hr1 x (by have := hp.2.1; omega) fun p p0 p1 => by have := hp.2.2.1 p p0 p1; omega
  obtain ⟨u1, u2, u3, u4⟩ := hp.un hun
  have l5 : ∀ (kk : Nat) (i : Nat) (f2 : sv_F), f sc 1 - (i : Int) < (kk : Int) → ((i : Int) ≤ f sc 1) → (sv_un rs fi se fd f f2) → sv_T X (sv_rm 5 0 0) MX4_digest (sv_Zm X 0 0 ((fun rv' S' f' r' g' => rv' = some (sv_l (sp_dig m (f V 2) (f sc 1) (f tx))) ∧ S' = S ∧ r' = r ∧ g' = g ∧ sv_un rs fi se fd f f'))) 0 0 121 [some (sv_r V), some (sv_l (sp_hf (f tx) (sp_hx (sp_hs m (sp_hf (fun i => m (583 + i)) (sp_hf (fun w => sp_count m (f V 2) (f sc 1) w) 176 13) (6 + 2 * m 582).toNat) (m 580).toNat) (sp_nst m)) i)), none, some (sv_i (i : Nat))] [] S (f2) r g := by
    intro kk
    induction kk with
    | zero =>
      intro i f2 hkk h1 hun2
      exact absurd hkk (by omega)
    | succ kk ih =>
      intro i f2 hkk h1 hun2
      obtain ⟨y1, y2, y3, y4⟩ := hp.un hun2
      refine sv_iload_n (i := 3) dX4_digest_121 rfl rfl ?_
      refine sv_aload_n (i := 0) dX4_digest_122 rfl rfl ?_
      refine sv_getR (kz := 3) flX4_27 dX4_digest_123 rfl rfl hve.lt hve.k hve.r3 ?_
      refine sv_getI (kz := 1) flX4_45 dX4_digest_126 rfl rfl hsc.lt hsc.k ?_
      rw [y2]
      refine sv_icmp_ge (tgt := 155) dX4_digest_129 (by decide) (by first | omega | exact hin _ _ | decide | (simp [sv_u, sv_row]; omega) | (simp [sv_u, sv_row]; exact hin _ _) | exact hin1 _ _ | (simp [sv_u, sv_row]; exact hin1 _ _)) (by first | omega | exact hin _ _ | decide | (simp [sv_u, sv_row]; omega) | (simp [sv_u, sv_row]; exact hin _ _) | exact hin1 _ _ | (simp [sv_u, sv_row]; exact hin1 _ _)) (fun h_129 => ?_) (fun h_129 => ?_)
      · refine sv_lload_n (i := 1) dX4_digest_155 rfl rfl ?_
        refine sv_lreturn dX4_digest_156 rfl ?_
        exact ⟨by unfold sp_dig; rw [show (f sc 1).toNat = i by omega], rfl, rfl, rfl, hun2⟩
      · refine sv_ldc2 (n := 31) dX4_digest_132 (List.mem_of_getElem? (i := 625) (by decide +kernel)) ?_
        refine sv_lload_n (i := 1) dX4_digest_135 rfl rfl ?_
        refine sv_lmul dX4_digest_136 ?_
        refine sv_aload_n (i := 0) dX4_digest_137 rfl rfl ?_
        refine sv_getR (kz := 3) flX4_27 dX4_digest_138 rfl rfl hve.lt hve.k hve.r3 ?_
        refine sv_getR (kz := 0) flX4_48 dX4_digest_141 rfl rfl hsc.lt hsc.k hsc.r0 ?_
        refine sv_iload_n (i := 3) dX4_digest_144 rfl rfl ?_
        refine sv_iald dX4_digest_145 hsc.l0 hsc.s0 (by omega) ?_
        rw [y3]
        refine sv_i2l dX4_digest_146 ?_
        refine sv_ladd dX4_digest_147 ?_
        refine sv_lstore_n (i := 1) dX4_digest_148 rfl (by decide) rfl ?_
        refine sv_iinc dX4_digest_149 rfl (by decide) rfl ?_
        refine sv_goto (tgt := 121) dX4_digest_152 (by decide) ?_
        exact sv_cast (ih (i + 1) f2 (by omega) (by omega) hun2) rfl rfl rfl rfl rfl rfl
  have l3 : ∀ (kk : Nat) (i : Nat), m 580 - (i : Int) < (kk : Int) → ((i : Int) ≤ m 580) → sv_T X (sv_rm 5 0 0) MX4_digest (sv_Zm X 0 0 ((fun rv' S' f' r' g' => rv' = some (sv_l (sp_dig m (f V 2) (f sc 1) (f tx))) ∧ S' = S ∧ r' = r ∧ g' = g ∧ sv_un rs fi se fd f f'))) 0 0 83 [some (sv_r V), some (sv_l (sp_hs m (sp_hf (fun i => m (583 + i)) (sp_hf (fun w => sp_count m (f V 2) (f sc 1) w) 176 13) (6 + 2 * m 582).toNat) i)), none, some (sv_i (i : Nat))] [] S (f1) r g := by
    intro kk
    induction kk with
    | zero =>
      intro i hkk h1
      exact absurd hkk (by omega)
    | succ kk ih =>
      intro i hkk h1
      refine sv_iload_n (i := 3) dX4_digest_83 rfl rfl ?_
      refine sv_aload_n (i := 0) dX4_digest_84 rfl rfl ?_
      refine sv_getR (kz := 0) flX4_10 dX4_digest_85 rfl rfl hve.lt hve.k hve.r0 ?_
      refine sv_getI (kz := 3) flX4_79 dX4_digest_88 rfl rfl hmo.lt hmo.k ?_
      rw [hv1.size]
      refine sv_icmp_ge (tgt := 107) dX4_digest_91 (by decide) (by first | omega | exact hin _ _ | decide | (simp [sv_u, sv_row]; omega) | (simp [sv_u, sv_row]; exact hin _ _) | exact hin1 _ _ | (simp [sv_u, sv_row]; exact hin1 _ _)) (by first | omega | exact hin _ _ | decide | (simp [sv_u, sv_row]; omega) | (simp [sv_u, sv_row]; exact hin _ _) | exact hin1 _ _ | (simp [sv_u, sv_row]; exact hin1 _ _)) (fun h_91 => ?_) (fun h_91 => ?_)
      · refine sv_ldc2 (n := 31) dX4_digest_107 (List.mem_of_getElem? (i := 625) (by decide +kernel)) ?_
        refine sv_lload_n (i := 1) dX4_digest_110 rfl rfl ?_
        refine sv_lmul dX4_digest_111 ?_
        refine sv_aload_n (i := 0) dX4_digest_112 rfl rfl ?_
        refine sv_vi0 (As := []) clX4_177 dX4_digest_113 ⟨_, rfl, rfl⟩ (by decide) rfl (Nat.le_of_ble_eq_true rfl) (by decide) (by decide) hve.lt hve.k (c_X4_nearestToGame hve hmo hv1 hre hw hv2 (fun p p0 p1 => (hp.1 fi (by simp)).2.2 p p0 p1) (hp.1 fi (by simp)).2.1 (hp.1 fi (by simp)).1 hg) (fun a f2 hf2 => ?_)
        rw [hf2.1]
        refine sv_i2l dX4_digest_116 ?_
        refine sv_ladd dX4_digest_117 ?_
        refine sv_lstore_n (i := 1) dX4_digest_118 rfl (by decide) rfl ?_
        refine sv_iconst dX4_digest_119 ?_
        refine sv_istore_n (i := 3) dX4_digest_120 rfl (by decide) rfl ?_
        rw [show i = (m 580).toNat by omega]
        exact l5 (f sc 1 + 1).toNat 0 f2 (by omega) (by omega) (hun.tr fun x _ _ c _ => hf2.2 x c)
      · refine sv_aload_n (i := 0) dX4_digest_94 rfl rfl ?_
        refine sv_lload_n (i := 1) dX4_digest_95 rfl rfl ?_
        refine sv_iload_n (i := 3) dX4_digest_96 rfl rfl ?_
        refine sv_vp0 (As := [_, _]) clX4_187 dX4_digest_97 ⟨_, rfl, rfl⟩ (by decide) rfl (Nat.le_of_ble_eq_true rfl) (by decide) (by decide) hve.lt hve.k (c_X4_addPlace hve hmo hv1 hre hw hv2 _ _ (by omega)) ?_
        refine sv_lstore_n (i := 1) dX4_digest_100 rfl (by decide) rfl ?_
        refine sv_iinc dX4_digest_101 rfl (by decide) rfl ?_
        refine sv_goto (tgt := 83) dX4_digest_104 (by decide) ?_
        exact sv_cast (ih (i + 1) (by omega) (by omega)) rfl rfl rfl rfl rfl rfl
  have l2 : ∀ (kk : Nat) (i : Nat), 6 + 2 * m 582 - (i : Int) < (kk : Int) → ((i : Int) ≤ 6 + 2 * m 582) → sv_T X (sv_rm 5 0 0) MX4_digest (sv_Zm X 0 0 ((fun rv' S' f' r' g' => rv' = some (sv_l (sp_dig m (f V 2) (f sc 1) (f tx))) ∧ S' = S ∧ r' = r ∧ g' = g ∧ sv_un rs fi se fd f f'))) 0 0 44 [some (sv_r V), some (sv_l (sp_hf (fun i => m (583 + i)) (sp_hf (fun w => sp_count m (f V 2) (f sc 1) w) 176 13) i)), none, some (sv_i (i : Nat))] [] S (f1) r g := by
    intro kk
    induction kk with
    | zero =>
      intro i hkk h1
      exact absurd hkk (by omega)
    | succ kk ih =>
      intro i hkk h1
      refine sv_iload_n (i := 3) dX4_digest_44 rfl rfl ?_
      refine sv_aload_n (i := 0) dX4_digest_45 rfl rfl ?_
      refine sv_getR (kz := 0) flX4_10 dX4_digest_46 rfl rfl hve.lt hve.k hve.r0 ?_
      refine sv_getI (kz := 0) flX4_54 dX4_digest_49 rfl rfl hmo.lt hmo.k ?_
      rw [hv1.form]
      refine sv_sp0 (As := [_]) clX4_57 dX4_digest_52 rfl (Nat.le_of_ble_eq_true rfl) (by decide) (by decide) (c_X4_sizeOf _) ?_
      refine sv_icmp_ge (tgt := 81) dX4_digest_55 (by decide) (by first | omega | exact hin _ _ | decide | (simp [sv_u, sv_row]; omega) | (simp [sv_u, sv_row]; exact hin _ _) | exact hin1 _ _ | (simp [sv_u, sv_row]; exact hin1 _ _)) (by first | omega | exact hin _ _ | decide | (simp [sv_u, sv_row]; omega) | (simp [sv_u, sv_row]; exact hin _ _) | exact hin1 _ _ | (simp [sv_u, sv_row]; exact hin1 _ _)) (fun h_55 => ?_) (fun h_55 => ?_)
      · refine sv_iconst dX4_digest_81 ?_
        refine sv_istore_n (i := 3) dX4_digest_82 rfl (by decide) rfl ?_
        rw [show i = (6 + 2 * m 582).toNat by omega]
        exact l3 (m 580 + 1).toNat 0 (by omega) (by omega)
      · refine sv_ldc2 (n := 31) dX4_digest_58 (List.mem_of_getElem? (i := 625) (by decide +kernel)) ?_
        refine sv_lload_n (i := 1) dX4_digest_61 rfl rfl ?_
        refine sv_lmul dX4_digest_62 ?_
        refine sv_aload_n (i := 0) dX4_digest_63 rfl rfl ?_
        refine sv_getR (kz := 0) flX4_10 dX4_digest_64 rfl rfl hve.lt hve.k hve.r0 ?_
        refine sv_getR (kz := 4) flX4_51 dX4_digest_67 rfl rfl hmo.lt hmo.k hmo.r1 ?_
        refine sv_iload_n (i := 3) dX4_digest_70 rfl rfl ?_
        refine sv_iald dX4_digest_71 hmo.l1 hmo.s1 (by omega) ?_
        rw [hv1.val (by omega) (by omega)]
        refine sv_i2l dX4_digest_72 ?_
        refine sv_ladd dX4_digest_73 ?_
        refine sv_lstore_n (i := 1) dX4_digest_74 rfl (by decide) rfl ?_
        refine sv_iinc dX4_digest_75 rfl (by decide) rfl ?_
        refine sv_goto (tgt := 44) dX4_digest_78 (by decide) ?_
        exact sv_cast (ih (i + 1) (by omega) (by omega)) rfl rfl rfl rfl rfl rfl
  have l1 : ∀ (kk : Nat) (i : Nat), 13 - (i : Int) < (kk : Int) → ((i : Int) ≤ 13) → sv_T X (sv_rm 5 0 0) MX4_digest (sv_Zm X 0 0 ((fun rv' S' f' r' g' => rv' = some (sv_l (sp_dig m (f V 2) (f sc 1) (f tx))) ∧ S' = S ∧ r' = r ∧ g' = g ∧ sv_un rs fi se fd f f'))) 0 0 17 [some (sv_r V), some (sv_l (sp_hf (fun w => sp_count m (f V 2) (f sc 1) w) 176 i)), none, some (sv_i (i : Nat))] [] S (f1) r g := by
    intro kk
    induction kk with
    | zero =>
      intro i hkk h1
      exact absurd hkk (by omega)
    | succ kk ih =>
      intro i hkk h1
      refine sv_iload_n (i := 3) dX4_digest_17 rfl rfl ?_
      refine sv_bipush dX4_digest_18 (by decide) ?_
      refine sv_icmp_ge (tgt := 42) dX4_digest_20 (by decide) (by first | omega | exact hin _ _ | decide | (simp [sv_u, sv_row]; omega) | (simp [sv_u, sv_row]; exact hin _ _) | exact hin1 _ _ | (simp [sv_u, sv_row]; exact hin1 _ _)) (by first | omega | exact hin _ _ | decide | (simp [sv_u, sv_row]; omega) | (simp [sv_u, sv_row]; exact hin _ _) | exact hin1 _ _ | (simp [sv_u, sv_row]; exact hin1 _ _)) (fun h_20 => ?_) (fun h_20 => ?_)
      · refine sv_iconst dX4_digest_42 ?_
        refine sv_istore_n (i := 3) dX4_digest_43 rfl (by decide) rfl ?_
        obtain rfl : i = 13 := by omega
        exact l2 (6 + 2 * m 582 + 1).toNat 0 (by omega) (by omega)
      · refine sv_ldc2 (n := 31) dX4_digest_23 (List.mem_of_getElem? (i := 625) (by decide +kernel)) ?_
        refine sv_lload_n (i := 1) dX4_digest_26 rfl rfl ?_
        refine sv_lmul dX4_digest_27 ?_
        refine sv_aload_n (i := 0) dX4_digest_28 rfl rfl ?_
        refine sv_iload_n (i := 3) dX4_digest_29 rfl rfl ?_
        refine sv_vp0 (As := [_]) clX4_180 dX4_digest_30 ⟨_, rfl, rfl⟩ (by decide) rfl (Nat.le_of_ble_eq_true rfl) (by decide) (by decide) hve.lt hve.k (c_X4_tally hve hmo hv1 hre hw hv2 hsc hg _ (by omega)) ?_
        rw [u1, u2]
        refine sv_i2l dX4_digest_33 ?_
        refine sv_ladd dX4_digest_34 ?_
        refine sv_lstore_n (i := 1) dX4_digest_35 rfl (by decide) rfl ?_
        refine sv_iinc dX4_digest_36 rfl (by decide) rfl ?_
        refine sv_goto (tgt := 17) dX4_digest_39 (by decide) ?_
        exact sv_cast (ih (i + 1) (by omega) (by omega)) rfl rfl rfl rfl rfl rfl
  refine sv_ldc2 (n := 176) dX4_digest_11 (List.mem_of_getElem? (i := 624) (by decide +kernel)) ?_
  refine sv_lstore_n (i := 1) dX4_digest_14 rfl (by decide) rfl ?_
  refine sv_iconst dX4_digest_15 ?_
  refine sv_istore_n (i := 3) dX4_digest_16 rfl (by decide) rfl ?_
  exact l1 14 0 (by omega) (by omega)
set_option maxRecDepth 100000 in
set_option maxHeartbeats 4000000 in
theorem c_X4_value {X : sv_X} {S : sv_S} {f : sv_F} {r : sv_R} {g : sv_G} {V q d fo rs fi se pa sc : Nat} {kp fd : Int → Nat} {m : Int → Int} (hve : sv_K4 S r V q d fi se pa sc) (hmo : sv_K1 S r q kp) (hmv : sv_V1 f q kp m) (hre : sv_K2 S r d fo rs fd) (hw : sp_wt m) (hg : 1 ≤ m 582 ∧ m 582 ≤ 3) (i : Int) (hi : sv_in i) : sv_C X 1 MX4_value 0 0 [sv_r V, sv_i i] S f r g (sv_qp (some (sv_i (if i < 0 then -2 else if i < 6 + 2 * m 582 then m (583 + i) else -1))) S f r g) := by
  refine sv_met (by decide) (by simp [lg_sl, sv_cv, va_rf, Value.category]) ?_
  refine sv_fr fun hin => ?_
  refine sv_iload_n (i := 1) dX4_value_0 rfl rfl ?_
  refine sv_if_ge (tgt := 7) dX4_value_1 (by decide) (by first | omega | exact hin _ _ | decide | (simp [sv_u, sv_row]; omega) | (simp [sv_u, sv_row]; exact hin _ _) | exact hin1 _ _ | (simp [sv_u, sv_row]; exact hin1 _ _)) (fun h_1 => ?_) (fun h_1 => ?_)
  · refine sv_iload_n (i := 1) dX4_value_7 rfl rfl ?_
    refine sv_aload_n (i := 0) dX4_value_8 rfl rfl ?_
    refine sv_getR (kz := 0) flX4_10 dX4_value_9 rfl rfl hve.lt hve.k hve.r0 ?_
    refine sv_getI (kz := 0) flX4_54 dX4_value_12 rfl rfl hmo.lt hmo.k ?_
    rw [hmv.form]
    refine sv_sp0 (As := [_]) clX4_57 dX4_value_15 rfl (Nat.le_of_ble_eq_true rfl) (by decide) (by decide) (c_X4_sizeOf _) ?_
    refine sv_icmp_ge (tgt := 33) dX4_value_18 (by decide) (by first | omega | exact hin _ _ | decide | (simp [sv_u, sv_row]; omega) | (simp [sv_u, sv_row]; exact hin _ _) | exact hin1 _ _ | (simp [sv_u, sv_row]; exact hin1 _ _)) (by first | omega | exact hin _ _ | decide | (simp [sv_u, sv_row]; omega) | (simp [sv_u, sv_row]; exact hin _ _) | exact hin1 _ _ | (simp [sv_u, sv_row]; exact hin1 _ _)) (fun h_18 => ?_) (fun h_18 => ?_)
    · refine sv_iconst dX4_value_33 ?_
      refine sv_ireturn dX4_value_34 rfl ?_
      exact ⟨by first | rw [if_pos (by omega)] | rw [if_neg (by omega), if_pos (by omega)] | rw [if_neg (by omega), if_neg (by omega)], rfl, rfl, rfl, rfl⟩
    · refine sv_aload_n (i := 0) dX4_value_21 rfl rfl ?_
      refine sv_getR (kz := 0) flX4_10 dX4_value_22 rfl rfl hve.lt hve.k hve.r0 ?_
      refine sv_getR (kz := 4) flX4_51 dX4_value_25 rfl rfl hmo.lt hmo.k hmo.r1 ?_
      refine sv_iload_n (i := 1) dX4_value_28 rfl rfl ?_
      refine sv_iald dX4_value_29 hmo.l1 hmo.s1 (by omega) ?_
      rw [hmv.val (by omega) (by omega)]
      refine sv_goto (tgt := 34) dX4_value_30 (by decide) ?_
      refine sv_ireturn dX4_value_34 rfl ?_
      exact ⟨by first | rw [if_pos (by omega)] | rw [if_neg (by omega), if_pos (by omega)] | rw [if_neg (by omega), if_neg (by omega)], rfl, rfl, rfl, rfl⟩
  · refine sv_bipush dX4_value_4 (by decide) ?_
    refine sv_ireturn dX4_value_6 rfl ?_
    exact ⟨by first | rw [if_pos (by omega)] | rw [if_neg (by omega), if_pos (by omega)] | rw [if_neg (by omega), if_neg (by omega)], rfl, rfl, rfl, rfl⟩
set_option maxRecDepth 100000 in
set_option maxHeartbeats 4000000 in
theorem c_X4_entry {X : sv_X} {S : sv_S} {f : sv_F} {r : sv_R} {g : sv_G} {V q d fo rs fi se pa sc : Nat} {kp fd : Int → Nat} {m : Int → Int} (hve : sv_K4 S r V q d fi se pa sc) (hmo : sv_K1 S r q kp) (hmv : sv_V1 f q kp m) (hre : sv_K2 S r d fo rs fd) (hw : sp_wt m) (k i w : Int) (hki : sv_in k) (hi : sv_in i) (hwi : sv_in w) : sv_C X 1 MX4_entry 0 0 [sv_r V, sv_i k, sv_i i, sv_i w] S f r g (sv_qp (some (sv_i (if k < 0 ∨ i < 0 ∨ ¬ (0 ≤ w ∧ w ≤ 1) then -2 else if sp_slot m k = -1 ∨ m (29 * sp_slot m k + 4) ≤ i then -1 else if w = 0 then m (29 * sp_slot m k + (5 + i)) else m (29 * sp_slot m k + (17 + i))))) S f r g) := by
  refine sv_met (by decide) (by simp [lg_sl, sv_cv, va_rf, Value.category]) ?_
  refine sv_fr fun hin => ?_
  have hcc := hw.c
  refine sv_iload_n (i := 1) dX4_entry_0 rfl rfl ?_
  refine sv_if_lt (tgt := 17) dX4_entry_1 (by decide) (by first | omega | exact hin _ _ | decide | (simp [sv_u, sv_row]; omega) | (simp [sv_u, sv_row]; exact hin _ _) | exact hin1 _ _ | (simp [sv_u, sv_row]; exact hin1 _ _)) (fun h_1 => ?_) (fun h_1 => ?_)
  · refine sv_bipush dX4_entry_17 (by decide) ?_
    refine sv_ireturn dX4_entry_19 rfl ?_
    exact ⟨by first | rw [if_pos (by omega)] | rw [if_neg (by omega), if_pos (by omega)] | rw [if_neg (by omega), if_neg (by omega), if_pos (by omega)] | rw [if_neg (by omega), if_neg (by omega), if_neg (by omega)], rfl, rfl, rfl, rfl⟩
  · refine sv_iload_n (i := 2) dX4_entry_4 rfl rfl ?_
    refine sv_if_lt (tgt := 17) dX4_entry_5 (by decide) (by first | omega | exact hin _ _ | decide | (simp [sv_u, sv_row]; omega) | (simp [sv_u, sv_row]; exact hin _ _) | exact hin1 _ _ | (simp [sv_u, sv_row]; exact hin1 _ _)) (fun h_5 => ?_) (fun h_5 => ?_)
    · refine sv_bipush dX4_entry_17 (by decide) ?_
      refine sv_ireturn dX4_entry_19 rfl ?_
      exact ⟨by first | rw [if_pos (by omega)] | rw [if_neg (by omega), if_pos (by omega)] | rw [if_neg (by omega), if_neg (by omega), if_pos (by omega)] | rw [if_neg (by omega), if_neg (by omega), if_neg (by omega)], rfl, rfl, rfl, rfl⟩
    · refine sv_iload_n (i := 3) dX4_entry_8 rfl rfl ?_
      refine sv_if_lt (tgt := 17) dX4_entry_9 (by decide) (by first | omega | exact hin _ _ | decide | (simp [sv_u, sv_row]; omega) | (simp [sv_u, sv_row]; exact hin _ _) | exact hin1 _ _ | (simp [sv_u, sv_row]; exact hin1 _ _)) (fun h_9 => ?_) (fun h_9 => ?_)
      · refine sv_bipush dX4_entry_17 (by decide) ?_
        refine sv_ireturn dX4_entry_19 rfl ?_
        exact ⟨by first | rw [if_pos (by omega)] | rw [if_neg (by omega), if_pos (by omega)] | rw [if_neg (by omega), if_neg (by omega), if_pos (by omega)] | rw [if_neg (by omega), if_neg (by omega), if_neg (by omega)], rfl, rfl, rfl, rfl⟩
      · refine sv_iload_n (i := 3) dX4_entry_12 rfl rfl ?_
        refine sv_iconst dX4_entry_13 ?_
        refine sv_icmp_lt (tgt := 20) dX4_entry_14 (by decide) (by first | omega | exact hin _ _ | decide | (simp [sv_u, sv_row]; omega) | (simp [sv_u, sv_row]; exact hin _ _) | exact hin1 _ _ | (simp [sv_u, sv_row]; exact hin1 _ _)) (by first | omega | exact hin _ _ | decide | (simp [sv_u, sv_row]; omega) | (simp [sv_u, sv_row]; exact hin _ _) | exact hin1 _ _ | (simp [sv_u, sv_row]; exact hin1 _ _)) (fun h_14 => ?_) (fun h_14 => ?_)
        · refine sv_aload_n (i := 0) dX4_entry_20 rfl rfl ?_
          refine sv_getR (kz := 0) flX4_10 dX4_entry_21 rfl rfl hve.lt hve.k hve.r0 ?_
          refine sv_iload_n (i := 1) dX4_entry_24 rfl rfl ?_
          refine sv_vp0 (As := [_]) clX4_124 dX4_entry_25 ⟨_, rfl, rfl⟩ (by decide) rfl (Nat.le_of_ble_eq_true rfl) (by decide) (by decide) hmo.lt hmo.k (c_X1_placeOf hmo hmv hcc _ hki) ?_
          have hst := sp_slot_spec m k
          refine sv_istore dX4_entry_28 (by decide) rfl ?_
          refine sv_iload dX4_entry_30 rfl ?_
          refine sv_iconst dX4_entry_32 ?_
          refine sv_icmp_eq (tgt := 53) dX4_entry_33 (by decide) (by first | omega | exact hin _ _ | decide | (simp [sv_u, sv_row]; omega) | (simp [sv_u, sv_row]; exact hin _ _) | exact hin1 _ _ | (simp [sv_u, sv_row]; exact hin1 _ _)) (by first | omega | exact hin _ _ | decide | (simp [sv_u, sv_row]; omega) | (simp [sv_u, sv_row]; exact hin _ _) | exact hin1 _ _ | (simp [sv_u, sv_row]; exact hin1 _ _)) (fun h_33 => ?_) (fun h_33 => ?_)
          · refine sv_iconst dX4_entry_53 ?_
            refine sv_ireturn dX4_entry_54 rfl ?_
            exact ⟨by first | rw [if_pos (by omega)] | rw [if_neg (by omega), if_pos (by omega)] | rw [if_neg (by omega), if_neg (by omega), if_pos (by omega)] | rw [if_neg (by omega), if_neg (by omega), if_neg (by omega)], rfl, rfl, rfl, rfl⟩
          · have hsn : sp_slot m k ≠ -1 := by assumption
            obtain ⟨s0, s1, s2⟩ := sp_slot_in hsn
            have hmy := hw.many s0 s1
            have hk := hmo.o (p := sp_slot m k) (by omega) (by omega)
            have hkv := hmv.o (s := sp_slot m k) (by omega) (by omega)
            refine sv_iload_n (i := 2) dX4_entry_36 rfl rfl ?_
            refine sv_aload_n (i := 0) dX4_entry_37 rfl rfl ?_
            refine sv_getR (kz := 0) flX4_10 dX4_entry_38 rfl rfl hve.lt hve.k hve.r0 ?_
            refine sv_getR (kz := 6) flX4_89 dX4_entry_41 rfl rfl hmo.lt hmo.k hmo.r3 ?_
            refine sv_iload dX4_entry_44 rfl ?_
            refine sv_aald (t := 0) (n := 20) dX4_entry_46 hmo.l3 (by decide) hmo.s3 (by omega) (hmo.e (p := sp_slot m k) (by omega) (by omega)) ?_
            refine sv_getI (kz := 4) flX4_149 dX4_entry_47 rfl rfl hk.lt hk.k ?_
            rw [hkv.size]
            refine sv_icmp_lt (tgt := 55) dX4_entry_50 (by decide) (by first | omega | exact hin _ _ | decide | (simp [sv_u, sv_row]; omega) | (simp [sv_u, sv_row]; exact hin _ _) | exact hin1 _ _ | (simp [sv_u, sv_row]; exact hin1 _ _)) (by first | omega | exact hin _ _ | decide | (simp [sv_u, sv_row]; omega) | (simp [sv_u, sv_row]; exact hin _ _) | exact hin1 _ _ | (simp [sv_u, sv_row]; exact hin1 _ _)) (fun h_50 => ?_) (fun h_50 => ?_)
            · refine sv_aload_n (i := 0) dX4_entry_55 rfl rfl ?_
              refine sv_getR (kz := 0) flX4_10 dX4_entry_56 rfl rfl hve.lt hve.k hve.r0 ?_
              refine sv_getR (kz := 6) flX4_89 dX4_entry_59 rfl rfl hmo.lt hmo.k hmo.r3 ?_
              refine sv_iload dX4_entry_62 rfl ?_
              refine sv_aald (t := 0) (n := 20) dX4_entry_64 hmo.l3 (by decide) hmo.s3 (by omega) (hmo.e (p := sp_slot m k) (by omega) (by omega)) ?_
              refine sv_astore dX4_entry_65 (by decide) rfl ?_
              refine sv_iload_n (i := 3) dX4_entry_67 rfl rfl ?_
              refine sv_if_ne (tgt := 81) dX4_entry_68 (by decide) (by first | omega | exact hin _ _ | decide | (simp [sv_u, sv_row]; omega) | (simp [sv_u, sv_row]; exact hin _ _) | exact hin1 _ _ | (simp [sv_u, sv_row]; exact hin1 _ _)) (fun h_68 => ?_) (fun h_68 => ?_)
              · refine sv_aload dX4_entry_81 rfl ?_
                refine sv_getR (kz := 6) flX4_150 dX4_entry_83 rfl rfl hk.lt hk.k hk.r2 ?_
                refine sv_iload_n (i := 2) dX4_entry_86 rfl rfl ?_
                refine sv_iald dX4_entry_87 hk.l2 hk.s2 (by omega) ?_
                try rw [hkv.val (by omega) (by omega)]
                refine sv_ireturn dX4_entry_88 rfl ?_
                exact ⟨by first | rw [if_pos (by omega)] | rw [if_neg (by omega), if_pos (by omega)] | rw [if_neg (by omega), if_neg (by omega), if_pos (by omega)] | rw [if_neg (by omega), if_neg (by omega), if_neg (by omega)], rfl, rfl, rfl, rfl⟩
              · refine sv_aload dX4_entry_71 rfl ?_
                refine sv_getR (kz := 5) flX4_163 dX4_entry_73 rfl rfl hk.lt hk.k hk.r1 ?_
                refine sv_iload_n (i := 2) dX4_entry_76 rfl rfl ?_
                refine sv_iald dX4_entry_77 hk.l1 hk.s1 (by omega) ?_
                rw [hkv.idx (by omega) (by omega)]
                refine sv_goto (tgt := 88) dX4_entry_78 (by decide) ?_
                try rw [hkv.val (by omega) (by omega)]
                refine sv_ireturn dX4_entry_88 rfl ?_
                exact ⟨by first | rw [if_pos (by omega)] | rw [if_neg (by omega), if_pos (by omega)] | rw [if_neg (by omega), if_neg (by omega), if_pos (by omega)] | rw [if_neg (by omega), if_neg (by omega), if_neg (by omega)], rfl, rfl, rfl, rfl⟩
            · refine sv_iconst dX4_entry_53 ?_
              refine sv_ireturn dX4_entry_54 rfl ?_
              exact ⟨by first | rw [if_pos (by omega)] | rw [if_neg (by omega), if_pos (by omega)] | rw [if_neg (by omega), if_neg (by omega), if_pos (by omega)] | rw [if_neg (by omega), if_neg (by omega), if_neg (by omega)], rfl, rfl, rfl, rfl⟩
        · refine sv_bipush dX4_entry_17 (by decide) ?_
          refine sv_ireturn dX4_entry_19 rfl ?_
          exact ⟨by first | rw [if_pos (by omega)] | rw [if_neg (by omega), if_pos (by omega)] | rw [if_neg (by omega), if_neg (by omega), if_pos (by omega)] | rw [if_neg (by omega), if_neg (by omega), if_neg (by omega)], rfl, rfl, rfl, rfl⟩
