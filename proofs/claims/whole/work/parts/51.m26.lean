set_option maxRecDepth 100000 in
set_option maxHeartbeats 4000000 in
theorem c_X5_mixesKept {X : sv_X} {S : sv_S} {f : sv_F} {r : sv_R} {g : sv_G} {o : Nat} {m : Int → Int} (hsh : sv_M5 S r o) (hm : f (o + 1) = m) (hw : sp_wt m) (s : Int) (hs : 0 ≤ s ∧ s < m 580) (h : Int64) : sv_C X 5 MX5_mixesKept 0 0 [sv_r o, sv_i s] S f r (sv_ug g o 16 h) (sv_qv (fun f' => sp_sq o f f') S r (sv_ug g o 16 (sp_hk m s h))) := by
  refine sv_met (by decide) (by simp [lg_sl, sv_cv, va_rf, Value.category]) ?_
  refine sv_fr fun hin => ?_
  have hcc := hw.c
  have hnm := hw.num hs.1 hs.2
  have hmy := hw.many hs.1 hs.2
  have l2 : ∀ (k : Nat) (k2 : Nat) (f1 : sv_F), m (29 * s + 4) - (k2 : Int) < (k : Int) → ((k2 : Int) ≤ m (29 * s + 4)) → (sp_sq o f f1) → sv_T X (sv_rm 5 0 0) MX5_mixesKept (sv_Zm X 0 0 (sv_qv (fun f' => sp_sq o f f') S r (sv_ug g o 16 (sp_hk m s h)))) 0 0 38 [some (sv_r o), some (sv_i s), some (sv_i (k2 : Nat))] [] S (f1) r (sv_ug g o 16 (sp_h2 (fun i => m (29 * s + (5 + i))) (fun i => m (29 * s + (17 + i))) (sp_hf (fun w => sp_part m s w) (sp_hx h (m (29 * s))) 8) k2)) := by
    intro k
    induction k with
    | zero =>
      intro k2 f1 hk h1 h2
      exact absurd hk (by omega)
    | succ k ih =>
      intro k2 f1 hk h1 h2
      refine sv_fr fun hin1 => ?_
      have hm1 : f1 (o + 1) = m := h2.m.trans hm
      refine sv_iload_n (i := 2) dX5_mixesKept_38 rfl rfl ?_
      refine sv_aload_n (i := 0) dX5_mixesKept_39 rfl rfl ?_
      refine sv_iload_n (i := 1) dX5_mixesKept_40 rfl rfl ?_
      refine sv_iconst dX5_mixesKept_41 ?_
      refine sv_vp0 (As := [_, _]) clX5_38 dX5_mixesKept_42 ⟨_, rfl, rfl⟩ (by decide) rfl (Nat.le_of_ble_eq_true rfl) (by decide) (by decide) hsh.lt hsh.k (c_X5_of hsh hm1 _ _ (by omega)) ?_
      refine sv_icmp_ge (tgt := 81) dX5_mixesKept_45 (by decide) (by first | omega | exact hin _ _ | decide | (simp [sv_u, sv_row]; omega) | (simp [sv_u, sv_row]; exact hin _ _) | exact hin1 _ _ | (simp [sv_u, sv_row]; exact hin1 _ _)) (by first | omega | exact hin _ _ | decide | (simp [sv_u, sv_row]; omega) | (simp [sv_u, sv_row]; exact hin _ _) | exact hin1 _ _ | (simp [sv_u, sv_row]; exact hin1 _ _)) (fun h_45 => ?_) (fun h_45 => ?_)
      · refine sv_aload_n (i := 0) dX5_mixesKept_81 rfl rfl ?_
        refine sv_aload_n (i := 0) dX5_mixesKept_82 rfl rfl ?_
        refine sv_aload_n (i := 0) dX5_mixesKept_83 rfl rfl ?_
        refine sv_iload_n (i := 1) dX5_mixesKept_84 rfl rfl ?_
        refine sv_iconst dX5_mixesKept_85 ?_
        refine sv_vp0 (As := [_, _]) clX5_38 dX5_mixesKept_86 ⟨_, rfl, rfl⟩ (by decide) rfl (Nat.le_of_ble_eq_true rfl) (by decide) (by decide) hsh.lt hsh.k (c_X5_of hsh hm1 _ _ (by omega)) ?_
        rw [show 29 * s + 0 = 29 * s by omega]
        refine sv_iconst dX5_mixesKept_89 ?_
        refine sv_iconst dX5_mixesKept_90 ?_
        refine sv_vi0 (As := [_, _, _]) clX5_204 dX5_mixesKept_91 ⟨_, rfl, rfl⟩ (by decide) rfl (Nat.le_of_ble_eq_true rfl) (by decide) (by decide) hsh.lt hsh.k (c_X5_cause hsh hm1 hw _ 0 0 (hm1 ▸ hin1 _ _) (by decide) (by decide)) (fun a f2 hf2 => ?_)
        obtain ⟨ha2, hf2⟩ := hf2
        subst ha2
        refine sv_i2l dX5_mixesKept_94 ?_
        refine sv_vm0 (As := [_]) clX5_200 dX5_mixesKept_95 ⟨_, rfl, rfl⟩ (by decide) rfl (Nat.le_of_ble_eq_true rfl) (by decide) (by decide) hsh.lt hsh.k (c_mixes hsh _) (fun f4 hf4 => ?_)
        rw [hf4]
        refine sv_return dX5_mixesKept_98 rfl ?_
        refine ⟨rfl, rfl, rfl, ?_, h2.trans hf2⟩
        unfold sp_hk
        rw [show (m (29 * s + 4)).toNat = k2 by omega]
      · refine sv_aload_n (i := 0) dX5_mixesKept_48 rfl rfl ?_
        refine sv_aload_n (i := 0) dX5_mixesKept_49 rfl rfl ?_
        refine sv_iload_n (i := 1) dX5_mixesKept_50 rfl rfl ?_
        refine sv_iconst dX5_mixesKept_51 ?_
        refine sv_iload_n (i := 2) dX5_mixesKept_52 rfl rfl ?_
        refine sv_iadd dX5_mixesKept_53 ?_
        refine sv_vp0 (As := [_, _]) clX5_38 dX5_mixesKept_54 ⟨_, rfl, rfl⟩ (by decide) rfl (Nat.le_of_ble_eq_true rfl) (by decide) (by decide) hsh.lt hsh.k (c_X5_of hsh hm1 _ _ (by omega)) ?_
        refine sv_i2l dX5_mixesKept_57 ?_
        refine sv_vm0 (As := [_]) clX5_200 dX5_mixesKept_58 ⟨_, rfl, rfl⟩ (by decide) rfl (Nat.le_of_ble_eq_true rfl) (by decide) (by decide) hsh.lt hsh.k (c_mixes hsh _) (fun f2 hf2 => ?_)
        rw [hf2]
        refine sv_aload_n (i := 0) dX5_mixesKept_61 rfl rfl ?_
        refine sv_aload_n (i := 0) dX5_mixesKept_62 rfl rfl ?_
        refine sv_iload_n (i := 1) dX5_mixesKept_63 rfl rfl ?_
        refine sv_bipush dX5_mixesKept_64 (by decide) ?_
        refine sv_iload_n (i := 2) dX5_mixesKept_66 rfl rfl ?_
        refine sv_iadd dX5_mixesKept_67 ?_
        refine sv_vp0 (As := [_, _]) clX5_38 dX5_mixesKept_68 ⟨_, rfl, rfl⟩ (by decide) rfl (Nat.le_of_ble_eq_true rfl) (by decide) (by decide) hsh.lt hsh.k (c_X5_of hsh hm1 _ _ (by omega)) ?_
        refine sv_i2l dX5_mixesKept_71 ?_
        refine sv_vm0 (As := [_]) clX5_200 dX5_mixesKept_72 ⟨_, rfl, rfl⟩ (by decide) rfl (Nat.le_of_ble_eq_true rfl) (by decide) (by decide) hsh.lt hsh.k (c_mixes hsh _) (fun f3 hf3 => ?_)
        rw [hf3]
        refine sv_iinc dX5_mixesKept_75 rfl (by decide) rfl ?_
        refine sv_goto (tgt := 38) dX5_mixesKept_78 (by decide) ?_
        refine sv_cast (ih (k2 + 1) f1 (by omega) (by omega) h2) rfl rfl rfl rfl rfl rfl
  have l1 : ∀ (k : Nat) (k2 : Nat) (f1 : sv_F), 8 - (k2 : Int) < (k : Int) → ((k2 : Int) ≤ 8) → (sp_sq o f f1) → sv_T X (sv_rm 5 0 0) MX5_mixesKept (sv_Zm X 0 0 (sv_qv (fun f' => sp_sq o f f') S r (sv_ug g o 16 (sp_hk m s h)))) 0 0 13 [some (sv_r o), some (sv_i s), some (sv_i (k2 : Nat))] [] S (f1) r (sv_ug g o 16 (sp_hf (fun w => sp_part m s w) (sp_hx h (m (29 * s))) k2)) := by
    intro k
    induction k with
    | zero =>
      intro k2 f1 hk h1 h2
      exact absurd hk (by omega)
    | succ k ih =>
      intro k2 f1 hk h1 h2
      refine sv_fr fun hin1 => ?_
      have hm1 : f1 (o + 1) = m := h2.m.trans hm
      refine sv_iload_n (i := 2) dX5_mixesKept_13 rfl rfl ?_
      refine sv_bipush dX5_mixesKept_14 (by decide) ?_
      refine sv_icmp_ge (tgt := 36) dX5_mixesKept_16 (by decide) (by first | omega | exact hin _ _ | decide | (simp [sv_u, sv_row]; omega) | (simp [sv_u, sv_row]; exact hin _ _) | exact hin1 _ _ | (simp [sv_u, sv_row]; exact hin1 _ _)) (by first | omega | exact hin _ _ | decide | (simp [sv_u, sv_row]; omega) | (simp [sv_u, sv_row]; exact hin _ _) | exact hin1 _ _ | (simp [sv_u, sv_row]; exact hin1 _ _)) (fun h_16 => ?_) (fun h_16 => ?_)
      · refine sv_iconst dX5_mixesKept_36 ?_
        refine sv_istore_n (i := 2) dX5_mixesKept_37 rfl (by decide) rfl ?_
        obtain rfl : k2 = 8 := by omega
        exact l2 (m (29 * s + 4) + 1).toNat 0 f1 (by omega) (by omega) h2
      · refine sv_aload_n (i := 0) dX5_mixesKept_19 rfl rfl ?_
        refine sv_aload_n (i := 0) dX5_mixesKept_20 rfl rfl ?_
        refine sv_iload_n (i := 1) dX5_mixesKept_21 rfl rfl ?_
        refine sv_iload_n (i := 2) dX5_mixesKept_22 rfl rfl ?_
        refine sv_vi0 (As := [_, _]) clX5_182 dX5_mixesKept_23 ⟨_, rfl, rfl⟩ (by decide) rfl (Nat.le_of_ble_eq_true rfl) (by decide) (by decide) hsh.lt hsh.k (c_X5_part hsh hm1 hw _ _ hs (by omega)) (fun a f2 hf2 => ?_)
        obtain ⟨ha2, hf2⟩ := hf2
        subst ha2
        refine sv_i2l dX5_mixesKept_26 ?_
        refine sv_vm0 (As := [_]) clX5_200 dX5_mixesKept_27 ⟨_, rfl, rfl⟩ (by decide) rfl (Nat.le_of_ble_eq_true rfl) (by decide) (by decide) hsh.lt hsh.k (c_mixes hsh _) (fun f3 hf3 => ?_)
        rw [hf3]
        refine sv_iinc dX5_mixesKept_30 rfl (by decide) rfl ?_
        refine sv_goto (tgt := 13) dX5_mixesKept_33 (by decide) ?_
        exact ih (k2 + 1) f2 (by omega) (by omega) (h2.trans hf2)
  refine sv_aload_n (i := 0) dX5_mixesKept_0 rfl rfl ?_
  refine sv_aload_n (i := 0) dX5_mixesKept_1 rfl rfl ?_
  refine sv_iload_n (i := 1) dX5_mixesKept_2 rfl rfl ?_
  refine sv_iconst dX5_mixesKept_3 ?_
  refine sv_vp0 (As := [_, _]) clX5_38 dX5_mixesKept_4 ⟨_, rfl, rfl⟩ (by decide) rfl (Nat.le_of_ble_eq_true rfl) (by decide) (by decide) hsh.lt hsh.k (c_X5_of hsh hm _ _ (by omega)) ?_
  rw [show 29 * s + 0 = 29 * s by omega]
  refine sv_i2l dX5_mixesKept_7 ?_
  refine sv_vm0 (As := [_]) clX5_200 dX5_mixesKept_8 ⟨_, rfl, rfl⟩ (by decide) rfl (Nat.le_of_ble_eq_true rfl) (by decide) (by decide) hsh.lt hsh.k (c_mixes hsh _) (fun f2 hf2 => ?_)
  rw [hf2]
  refine sv_iconst dX5_mixesKept_11 ?_
  refine sv_istore_n (i := 2) dX5_mixesKept_12 rfl (by decide) rfl ?_
  exact l1 9 0 f (by omega) (by omega) sp_sq.rf
