set_option maxRecDepth 100000 in
set_option maxHeartbeats 4000000 in
theorem c_X5_digest {X : sv_X} {S : sv_S} {f : sv_F} {r : sv_R} {g : sv_G} {o : Nat} {m : Int → Int} (hsh : sv_M5 S r o) (hm : f (o + 1) = m) (hw : sp_wt m) (hg : sp_wg m) (h10 : 0 ≤ f o 10 ∧ f o 10 ≤ 80) : sv_C X 6 MX5_digest 0 0 [sv_r o] S f r g ((fun rv' S' f' r' g' => rv' = some (sv_l (sp_dig m (f o 2) (f o 10) (f (o + 7)))) ∧ S' = S ∧ r' = r ∧ sp_sq o f f' ∧ ∃ h, g' = sv_ug g o 16 h)) := by
  refine sv_met (by decide) (by simp [lg_sl, sv_cv, va_rf, Value.category]) ?_
  refine sv_fr fun hin => ?_
  have hcc := hw.c
  have hgf := hg.f
  have l5 : ∀ (k : Nat) (k2 : Nat) (f1 : sv_F), f o 10 - (k2 : Int) < (k : Int) → ((k2 : Int) ≤ f o 10) → (sp_sq o f f1) → sv_T X (sv_rm 6 0 0) MX5_digest (sv_Zm X 0 0 ((fun rv' S' f' r' g' => rv' = some (sv_l (sp_dig m (f o 2) (f o 10) (f (o + 7)))) ∧ S' = S ∧ r' = r ∧ sp_sq o f f' ∧ ∃ h, g' = sv_ug g o 16 h))) 0 0 105 [some (sv_r o), some (sv_i (k2 : Nat))] [] S (f1) r (sv_ug g o 16 (sp_hf (f (o + 7)) (sp_hx (sp_hs m (sp_hf (fun i => m (583 + i)) (sp_hf (fun w => sp_count m (f o 2) (f o 10) w) 176 13) (6 + 2 * m 582).toNat) (m 580).toNat) (sp_nst m)) k2)) := by
    intro k
    induction k with
    | zero =>
      intro k2 f1 hk h1 h2
      exact absurd hk (by omega)
    | succ k ih =>
      intro k2 f1 hk h1 h2
      refine sv_fr fun hin1 => ?_
      have hm1 : f1 (o + 1) = m := h2.m.trans hm
      have t1 : f1 (o + 7) = f (o + 7) := h2.t
      have t2 : f1 o 2 = f o 2 := h2.2.1
      have t3 : f1 o 10 = f o 10 := h2.2.2
      refine sv_iload_n (i := 1) dX5_digest_105 rfl rfl ?_
      refine sv_aload_n (i := 0) dX5_digest_106 rfl rfl ?_
      refine sv_getI (kz := 10) flX5_85 dX5_digest_107 rfl rfl hsh.lt hsh.k ?_
      rw [t3]
      refine sv_icmp_ge (tgt := 130) dX5_digest_110 (by decide) (by first | omega | exact hin _ _ | decide | (simp [sv_u, sv_row]; omega) | (simp [sv_u, sv_row]; exact hin _ _) | exact hin1 _ _ | (simp [sv_u, sv_row]; exact hin1 _ _)) (by first | omega | exact hin _ _ | decide | (simp [sv_u, sv_row]; omega) | (simp [sv_u, sv_row]; exact hin _ _) | exact hin1 _ _ | (simp [sv_u, sv_row]; exact hin1 _ _)) (fun h_110 => ?_) (fun h_110 => ?_)
      · refine sv_aload_n (i := 0) dX5_digest_130 rfl rfl ?_
        refine sv_getL (kz := 16) flX5_196 dX5_digest_131 rfl rfl hsh.lt hsh.k ?_
        refine sv_lreturn dX5_digest_134 rfl ?_
        refine ⟨?_, rfl, rfl, h2, _, rfl⟩
        rw [sv_ug_at]
        unfold sp_dig
        rw [show (f o 10).toNat = k2 by omega]
      · refine sv_aload_n (i := 0) dX5_digest_113 rfl rfl ?_
        refine sv_aload_n (i := 0) dX5_digest_114 rfl rfl ?_
        refine sv_getR (kz := 9) flX5_28 dX5_digest_115 rfl rfl hsh.lt hsh.k hsh.r7 ?_
        refine sv_iload_n (i := 1) dX5_digest_118 rfl rfl ?_
        refine sv_iald dX5_digest_119 hsh.l7 hsh.s7 (by omega) ?_
        rw [t1]
        refine sv_i2l dX5_digest_120 ?_
        refine sv_vm0 (As := [_]) clX5_200 dX5_digest_121 ⟨_, rfl, rfl⟩ (by decide) rfl (Nat.le_of_ble_eq_true rfl) (by decide) (by decide) hsh.lt hsh.k (c_mixes hsh _) (fun f2 hf2 => ?_)
        rw [hf2]
        refine sv_iinc dX5_digest_124 rfl (by decide) rfl ?_
        refine sv_goto (tgt := 105) dX5_digest_127 (by decide) ?_
        refine sv_cast (ih (k2 + 1) f1 (by omega) (by omega) h2) rfl rfl rfl rfl rfl rfl
  have l3 : ∀ (k : Nat) (k2 : Nat) (f1 : sv_F), m 580 - (k2 : Int) < (k : Int) → ((k2 : Int) ≤ m 580) → (sp_sq o f f1) → sv_T X (sv_rm 6 0 0) MX5_digest (sv_Zm X 0 0 ((fun rv' S' f' r' g' => rv' = some (sv_l (sp_dig m (f o 2) (f o 10) (f (o + 7)))) ∧ S' = S ∧ r' = r ∧ sp_sq o f f' ∧ ∃ h, g' = sv_ug g o 16 h))) 0 0 71 [some (sv_r o), some (sv_i (k2 : Nat))] [] S (f1) r (sv_ug g o 16 (sp_hs m (sp_hf (fun i => m (583 + i)) (sp_hf (fun w => sp_count m (f o 2) (f o 10) w) 176 13) (6 + 2 * m 582).toNat) k2)) := by
    intro k
    induction k with
    | zero =>
      intro k2 f1 hk h1 h2
      exact absurd hk (by omega)
    | succ k ih =>
      intro k2 f1 hk h1 h2
      refine sv_fr fun hin1 => ?_
      have hm1 : f1 (o + 1) = m := h2.m.trans hm
      have t1 : f1 (o + 7) = f (o + 7) := h2.t
      have t2 : f1 o 2 = f o 2 := h2.2.1
      have t3 : f1 o 10 = f o 10 := h2.2.2
      refine sv_iload_n (i := 1) dX5_digest_71 rfl rfl ?_
      refine sv_aload_n (i := 0) dX5_digest_72 rfl rfl ?_
      refine sv_getR (kz := 0) flX5_7 dX5_digest_73 rfl rfl hsh.lt hsh.k hsh.r1 ?_
      refine sv_sipush dX5_digest_76 (by decide) ?_
      refine sv_iald dX5_digest_79 hsh.l1 hsh.s1 (by omega) ?_
      rw [hm1]
      refine sv_icmp_ge (tgt := 94) dX5_digest_80 (by decide) (by first | omega | exact hin _ _ | decide | (simp [sv_u, sv_row]; omega) | (simp [sv_u, sv_row]; exact hin _ _) | exact hin1 _ _ | (simp [sv_u, sv_row]; exact hin1 _ _)) (by first | omega | exact hin _ _ | decide | (simp [sv_u, sv_row]; omega) | (simp [sv_u, sv_row]; exact hin _ _) | exact hin1 _ _ | (simp [sv_u, sv_row]; exact hin1 _ _)) (fun h_80 => ?_) (fun h_80 => ?_)
      · refine sv_aload_n (i := 0) dX5_digest_94 rfl rfl ?_
        refine sv_aload_n (i := 0) dX5_digest_95 rfl rfl ?_
        refine sv_vi0 (As := []) clX5_216 dX5_digest_96 ⟨_, rfl, rfl⟩ (by decide) rfl (Nat.le_of_ble_eq_true rfl) (by decide) (by decide) hsh.lt hsh.k (c_X5_nearest hsh hm1 hw hg) (fun a f2 hf2 => ?_)
        obtain ⟨ha2, hf2⟩ := hf2
        subst ha2
        refine sv_i2l dX5_digest_99 ?_
        refine sv_vm0 (As := [_]) clX5_200 dX5_digest_100 ⟨_, rfl, rfl⟩ (by decide) rfl (Nat.le_of_ble_eq_true rfl) (by decide) (by decide) hsh.lt hsh.k (c_mixes hsh _) (fun f3 hf3 => ?_)
        rw [hf3]
        refine sv_iconst dX5_digest_103 ?_
        refine sv_istore_n (i := 1) dX5_digest_104 rfl (by decide) rfl ?_
        rw [show k2 = (m 580).toNat by omega]
        exact l5 (f o 10 + 1).toNat 0 f2 (by omega) (by omega) (h2.trans hf2)
      · refine sv_aload_n (i := 0) dX5_digest_83 rfl rfl ?_
        refine sv_iload_n (i := 1) dX5_digest_84 rfl rfl ?_
        refine sv_vm0 (As := [_]) clX5_213 dX5_digest_85 ⟨_, rfl, rfl⟩ (by decide) rfl (Nat.le_of_ble_eq_true rfl) (by decide) (by decide) hsh.lt hsh.k (c_X5_mixesKept hsh hm1 hw _ (by omega) _) (fun f2 hf2 => ?_)
        refine sv_iinc dX5_digest_88 rfl (by decide) rfl ?_
        refine sv_goto (tgt := 71) dX5_digest_91 (by decide) ?_
        exact ih (k2 + 1) f2 (by omega) (by omega) (h2.trans hf2)
  have l2 : ∀ (k : Nat) (k2 : Nat) (f1 : sv_F), 6 + 2 * m 582 - (k2 : Int) < (k : Int) → ((k2 : Int) ≤ 6 + 2 * m 582) → (sp_sq o f f1) → sv_T X (sv_rm 6 0 0) MX5_digest (sv_Zm X 0 0 ((fun rv' S' f' r' g' => rv' = some (sv_l (sp_dig m (f o 2) (f o 10) (f (o + 7)))) ∧ S' = S ∧ r' = r ∧ sp_sq o f f' ∧ ∃ h, g' = sv_ug g o 16 h))) 0 0 33 [some (sv_r o), some (sv_i (k2 : Nat))] [] S (f1) r (sv_ug g o 16 (sp_hf (fun i => m (583 + i)) (sp_hf (fun w => sp_count m (f o 2) (f o 10) w) 176 13) k2)) := by
    intro k
    induction k with
    | zero =>
      intro k2 f1 hk h1 h2
      exact absurd hk (by omega)
    | succ k ih =>
      intro k2 f1 hk h1 h2
      refine sv_fr fun hin1 => ?_
      have hm1 : f1 (o + 1) = m := h2.m.trans hm
      have t1 : f1 (o + 7) = f (o + 7) := h2.t
      have t2 : f1 o 2 = f o 2 := h2.2.1
      have t3 : f1 o 10 = f o 10 := h2.2.2
      refine sv_iload_n (i := 1) dX5_digest_33 rfl rfl ?_
      refine sv_aload_n (i := 0) dX5_digest_34 rfl rfl ?_
      refine sv_getR (kz := 0) flX5_7 dX5_digest_35 rfl rfl hsh.lt hsh.k hsh.r1 ?_
      refine sv_sipush dX5_digest_38 (by decide) ?_
      refine sv_iald dX5_digest_41 hsh.l1 hsh.s1 (by omega) ?_
      rw [hm1]
      refine sv_sp0 (As := [_]) clX5_52 dX5_digest_42 rfl (Nat.le_of_ble_eq_true rfl) (by decide) (by decide) (c_X5_valuesOf _) ?_
      refine sv_icmp_ge (tgt := 69) dX5_digest_45 (by decide) (by first | omega | exact hin _ _ | decide | (simp [sv_u, sv_row]; omega) | (simp [sv_u, sv_row]; exact hin _ _) | exact hin1 _ _ | (simp [sv_u, sv_row]; exact hin1 _ _)) (by first | omega | exact hin _ _ | decide | (simp [sv_u, sv_row]; omega) | (simp [sv_u, sv_row]; exact hin _ _) | exact hin1 _ _ | (simp [sv_u, sv_row]; exact hin1 _ _)) (fun h_45 => ?_) (fun h_45 => ?_)
      · refine sv_iconst dX5_digest_69 ?_
        refine sv_istore_n (i := 1) dX5_digest_70 rfl (by decide) rfl ?_
        rw [show k2 = (6 + 2 * m 582).toNat by omega]
        exact l3 (m 580 + 1).toNat 0 f1 (by omega) (by omega) h2
      · refine sv_aload_n (i := 0) dX5_digest_48 rfl rfl ?_
        refine sv_aload_n (i := 0) dX5_digest_49 rfl rfl ?_
        refine sv_getR (kz := 0) flX5_7 dX5_digest_50 rfl rfl hsh.lt hsh.k hsh.r1 ?_
        refine sv_sipush dX5_digest_53 (by decide) ?_
        refine sv_iload_n (i := 1) dX5_digest_56 rfl rfl ?_
        refine sv_iadd dX5_digest_57 ?_
        refine sv_iald dX5_digest_58 hsh.l1 hsh.s1 (by omega) ?_
        rw [hm1]
        refine sv_i2l dX5_digest_59 ?_
        refine sv_vm0 (As := [_]) clX5_200 dX5_digest_60 ⟨_, rfl, rfl⟩ (by decide) rfl (Nat.le_of_ble_eq_true rfl) (by decide) (by decide) hsh.lt hsh.k (c_mixes hsh _) (fun f2 hf2 => ?_)
        rw [hf2]
        refine sv_iinc dX5_digest_63 rfl (by decide) rfl ?_
        refine sv_goto (tgt := 33) dX5_digest_66 (by decide) ?_
        refine sv_cast (ih (k2 + 1) f1 (by omega) (by omega) h2) rfl rfl rfl rfl rfl rfl
  have l1 : ∀ (k : Nat) (k2 : Nat) (f1 : sv_F), 13 - (k2 : Int) < (k : Int) → ((k2 : Int) ≤ 13) → (sp_sq o f f1) → sv_T X (sv_rm 6 0 0) MX5_digest (sv_Zm X 0 0 ((fun rv' S' f' r' g' => rv' = some (sv_l (sp_dig m (f o 2) (f o 10) (f (o + 7)))) ∧ S' = S ∧ r' = r ∧ sp_sq o f f' ∧ ∃ h, g' = sv_ug g o 16 h))) 0 0 9 [some (sv_r o), some (sv_i (k2 : Nat))] [] S (f1) r (sv_ug g o 16 (sp_hf (fun w => sp_count m (f o 2) (f o 10) w) 176 k2)) := by
    intro k
    induction k with
    | zero =>
      intro k2 f1 hk h1 h2
      exact absurd hk (by omega)
    | succ k ih =>
      intro k2 f1 hk h1 h2
      refine sv_fr fun hin1 => ?_
      have hm1 : f1 (o + 1) = m := h2.m.trans hm
      have t1 : f1 (o + 7) = f (o + 7) := h2.t
      have t2 : f1 o 2 = f o 2 := h2.2.1
      have t3 : f1 o 10 = f o 10 := h2.2.2
      refine sv_iload_n (i := 1) dX5_digest_9 rfl rfl ?_
      refine sv_bipush dX5_digest_10 (by decide) ?_
      refine sv_icmp_ge (tgt := 31) dX5_digest_12 (by decide) (by first | omega | exact hin _ _ | decide | (simp [sv_u, sv_row]; omega) | (simp [sv_u, sv_row]; exact hin _ _) | exact hin1 _ _ | (simp [sv_u, sv_row]; exact hin1 _ _)) (by first | omega | exact hin _ _ | decide | (simp [sv_u, sv_row]; omega) | (simp [sv_u, sv_row]; exact hin _ _) | exact hin1 _ _ | (simp [sv_u, sv_row]; exact hin1 _ _)) (fun h_12 => ?_) (fun h_12 => ?_)
      · refine sv_iconst dX5_digest_31 ?_
        refine sv_istore_n (i := 1) dX5_digest_32 rfl (by decide) rfl ?_
        obtain rfl : k2 = 13 := by omega
        exact l2 (6 + 2 * m 582 + 1).toNat 0 f1 (by omega) (by omega) h2
      · refine sv_aload_n (i := 0) dX5_digest_15 rfl rfl ?_
        refine sv_aload_n (i := 0) dX5_digest_16 rfl rfl ?_
        refine sv_iload_n (i := 1) dX5_digest_17 rfl rfl ?_
        refine sv_vi0 (As := [_]) clX5_210 dX5_digest_18 ⟨_, rfl, rfl⟩ (by decide) rfl (Nat.le_of_ble_eq_true rfl) (by decide) (by decide) hsh.lt hsh.k (c_X5_count hsh hm1 hw hg _ (by omega)) (fun a f2 hf2 => ?_)
        obtain ⟨ha2, hf2⟩ := hf2
        rw [t2, t3] at ha2
        subst ha2
        refine sv_i2l dX5_digest_21 ?_
        refine sv_vm0 (As := [_]) clX5_200 dX5_digest_22 ⟨_, rfl, rfl⟩ (by decide) rfl (Nat.le_of_ble_eq_true rfl) (by decide) (by decide) hsh.lt hsh.k (c_mixes hsh _) (fun f3 hf3 => ?_)
        rw [hf3]
        refine sv_iinc dX5_digest_25 rfl (by decide) rfl ?_
        refine sv_goto (tgt := 9) dX5_digest_28 (by decide) ?_
        exact ih (k2 + 1) f2 (by omega) (by omega) (h2.trans hf2)
  refine sv_aload_n (i := 0) dX5_digest_0 rfl rfl ?_
  refine sv_ldc2 (n := 176) dX5_digest_1 (List.mem_of_getElem? (i := 936) (by decide +kernel)) ?_
  refine sv_putL (kz := 16) flX5_196 dX5_digest_4 (Or.inl rfl) rfl rfl hsh.lt hsh.k ?_
  refine sv_iconst dX5_digest_7 ?_
  refine sv_istore_n (i := 1) dX5_digest_8 rfl (by decide) rfl ?_
  exact l1 14 0 f (by omega) (by omega) sp_sq.rf
