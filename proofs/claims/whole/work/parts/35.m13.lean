set_option maxRecDepth 100000 in
set_option maxHeartbeats 4000000 in
theorem c_X5_alter {X : sv_X} {S : sv_S} {f : sv_F} {r : sv_R} {g : sv_G} {o : Nat} {m : Int → Int} (hsh : sv_M5 S r o) (hm : f (o + 1) = m) (hw : sp_wt m) (k i v : Int) (hk : sv_in k) (hi : sv_in i) (hv : sv_in v) (hu : 0 ≤ f o 2 ∧ f o 2 ≤ 6) : sv_C X 3 MX5_alter 0 0 [sv_r o, sv_i k, sv_i i, sv_i v] S f r g (sv_qi (fun a f' => ((sp_slot m k = -1 ∨ ¬ (0 ≤ i ∧ i < m (29 * sp_slot m k + 4)) ∨ ¬ (0 ≤ v ∧ v ≤ 99)) ∧ a = -2 ∧ f' = f) ∨ (¬ (sp_slot m k = -1 ∨ ¬ (0 ≤ i ∧ i < m (29 * sp_slot m k + 4)) ∨ ¬ (0 ≤ v ∧ v ≤ 99)) ∧ a = m (29 * sp_slot m k + (17 + i)) ∧ sp_chg o f f' ∧ f' (o + 1) = sp_up m (29 * sp_slot m k + (17 + i)) v)) S r g) := by
  refine sv_met (by decide) (by simp [lg_sl, sv_cv, va_rf, Value.category]) ?_
  refine sv_fr fun hin => ?_
  refine sv_aload_n (i := 0) dX5_alter_0 rfl rfl ?_
  refine sv_iload_n (i := 1) dX5_alter_1 rfl rfl ?_
  refine sv_vp0 (As := [_]) clX5_59 dX5_alter_2 ⟨_, rfl, rfl⟩ (by decide) rfl (Nat.le_of_ble_eq_true rfl) (by decide) (by decide) hsh.lt hsh.k (c_X5_slotOf hsh (by first | exact hm | exact hm1 | exact hm2 | rfl | (simp only [sv_u_ne, sv_row_ne, sv_row_eq, ne_eq, Nat.add_left_cancel_iff, Nat.reduceEqDiff, not_false_eq_true, Nat.add_eq_left, reduceCtorEq, OfNat.ofNat_ne_zero, OfNat.one_ne_ofNat, OfNat.ofNat_ne_one, one_ne_zero, Nat.succ_ne_self]; first | exact hm | rfl) | (simp [sv_u_ne, sv_row_ne, sv_row_eq]; done) | (simp [sv_u_ne, sv_row_ne, sv_row_eq]; exact hm)) _ (by omega) hw.c) ?_
  have hst := sp_slot_spec m k
  have hcc := hw.c
  refine sv_istore dX5_alter_5 (by decide) rfl ?_
  refine sv_iload dX5_alter_7 rfl ?_
  refine sv_iconst dX5_alter_9 ?_
  refine sv_icmp_eq (tgt := 40) dX5_alter_10 (by decide) (by first | omega | exact hin _ _ | decide | (simp [sv_u, sv_row]; omega) | (simp [sv_u, sv_row]; exact hin _ _) | exact hin1 _ _ | (simp [sv_u, sv_row]; exact hin1 _ _)) (by first | omega | exact hin _ _ | decide | (simp [sv_u, sv_row]; omega) | (simp [sv_u, sv_row]; exact hin _ _) | exact hin1 _ _ | (simp [sv_u, sv_row]; exact hin1 _ _)) (fun h_10 => ?_) (fun h_10 => ?_)
  · refine sv_bipush dX5_alter_40 (by decide) ?_
    refine sv_ireturn dX5_alter_42 rfl ?_
    exact ⟨_, rfl, rfl, rfl, rfl, Or.inl ⟨by omega, rfl, rfl⟩⟩
  · have hsl : sp_slot m k ≠ -1 := by assumption
    obtain ⟨s0, s1, s2⟩ := sp_slot_in hsl
    have hmm := hw.many s0 s1
    refine sv_iload_n (i := 2) dX5_alter_13 rfl rfl ?_
    refine sv_iconst dX5_alter_14 ?_
    refine sv_aload_n (i := 0) dX5_alter_15 rfl rfl ?_
    refine sv_iload dX5_alter_16 rfl ?_
    refine sv_iconst dX5_alter_18 ?_
    refine sv_vp0 (As := [_, _]) clX5_38 dX5_alter_19 ⟨_, rfl, rfl⟩ (by decide) rfl (Nat.le_of_ble_eq_true rfl) (by decide) (by decide) hsh.lt hsh.k (c_X5_of hsh (by first | exact hm | exact hm1 | exact hm2 | rfl | (simp only [sv_u_ne, sv_row_ne, sv_row_eq, ne_eq, Nat.add_left_cancel_iff, Nat.reduceEqDiff, not_false_eq_true, Nat.add_eq_left, reduceCtorEq, OfNat.ofNat_ne_zero, OfNat.one_ne_ofNat, OfNat.ofNat_ne_one, one_ne_zero, Nat.succ_ne_self]; first | exact hm | rfl) | (simp [sv_u_ne, sv_row_ne, sv_row_eq]; done) | (simp [sv_u_ne, sv_row_ne, sv_row_eq]; exact hm)) _ _ (by omega)) ?_
    refine sv_iconst dX5_alter_22 ?_
    refine sv_isub dX5_alter_23 ?_
    refine sv_sp0 (As := [_, _, _]) clX5_81 dX5_alter_24 rfl (Nat.le_of_ble_eq_true rfl) (by decide) (by decide) (c_X5_in _ _ _ (by omega) (by omega) (by omega)) ?_
    refine sv_bif_eq (tgt := 40) dX5_alter_27 (by decide) (fun h_27 => ?_) (fun h_27 => ?_)
    · refine sv_bipush dX5_alter_40 (by decide) ?_
      refine sv_ireturn dX5_alter_42 rfl ?_
      exact ⟨_, rfl, rfl, rfl, rfl, Or.inl ⟨by omega, rfl, rfl⟩⟩
    · refine sv_iload_n (i := 3) dX5_alter_30 rfl rfl ?_
      refine sv_iconst dX5_alter_31 ?_
      refine sv_bipush dX5_alter_32 (by decide) ?_
      refine sv_sp0 (As := [_, _, _]) clX5_81 dX5_alter_34 rfl (Nat.le_of_ble_eq_true rfl) (by decide) (by decide) (c_X5_in _ _ _ (by omega) (by omega) (by omega)) ?_
      refine sv_bif_ne (tgt := 43) dX5_alter_37 (by decide) (fun h_37 => ?_) (fun h_37 => ?_)
      · refine sv_aload_n (i := 0) dX5_alter_43 rfl rfl ?_
        refine sv_vv0 (As := []) clX5_137 dX5_alter_44 ⟨_, rfl, rfl⟩ (by decide) rfl (Nat.le_of_ble_eq_true rfl) (by decide) (by decide) hsh.lt hsh.k (c_X5_keeps hsh hu) (fun f1 hf1 => ?_)
        have k1 : ∀ x, x ≠ o → x ≠ o + 2 → f1 x = f x := fun x a1 a2 => by rw [hf1, sv_u_ne a1, sv_row_ne a2]
        have k2 : ∀ j, j ≠ 2 → f1 o j = f o j := fun j a1 => by rw [hf1]; simp [sv_u, sv_row, a1]
        have k3 : f1 (o + 2) = sp_kpast (f (o + 1)) (f (o + 2)) (f o 2) := by rw [hf1, sv_u_ne (by omega), sv_row_eq]; rfl
        have k4 : f1 o 2 = sp_ku (f o 2) := by rw [hf1]; simp [sv_u]; rfl
        clear hf1
        have hm1 : f1 (o + 1) = m := by rw [k1 (o + 1) (by omega) (by omega)]; exact hm
        refine sv_aload_n (i := 0) dX5_alter_47 rfl rfl ?_
        refine sv_iload dX5_alter_48 rfl ?_
        refine sv_bipush dX5_alter_50 (by decide) ?_
        refine sv_iload_n (i := 2) dX5_alter_52 rfl rfl ?_
        refine sv_iadd dX5_alter_53 ?_
        refine sv_vp0 (As := [_, _]) clX5_38 dX5_alter_54 ⟨_, rfl, rfl⟩ (by decide) rfl (Nat.le_of_ble_eq_true rfl) (by decide) (by decide) hsh.lt hsh.k (c_X5_of hsh (by first | exact hm | exact hm1 | exact hm2 | rfl | (simp only [sv_u_ne, sv_row_ne, sv_row_eq, ne_eq, Nat.add_left_cancel_iff, Nat.reduceEqDiff, not_false_eq_true, Nat.add_eq_left, reduceCtorEq, OfNat.ofNat_ne_zero, OfNat.one_ne_ofNat, OfNat.ofNat_ne_one, one_ne_zero, Nat.succ_ne_self]; first | exact hm | rfl) | (simp [sv_u_ne, sv_row_ne, sv_row_eq]; done) | (simp [sv_u_ne, sv_row_ne, sv_row_eq]; exact hm)) _ _ (by omega)) ?_
        refine sv_istore dX5_alter_57 (by decide) rfl ?_
        refine sv_aload_n (i := 0) dX5_alter_59 rfl rfl ?_
        refine sv_iload dX5_alter_60 rfl ?_
        refine sv_bipush dX5_alter_62 (by decide) ?_
        refine sv_iload_n (i := 2) dX5_alter_64 rfl rfl ?_
        refine sv_iadd dX5_alter_65 ?_
        refine sv_iload_n (i := 3) dX5_alter_66 rfl rfl ?_
        refine sv_vv0 (As := [_, _, _]) clX5_77 dX5_alter_67 ⟨_, rfl, rfl⟩ (by decide) rfl (Nat.le_of_ble_eq_true rfl) (by decide) (by decide) hsh.lt hsh.k (c_X5_put hsh _ _ _ (by omega) (by omega)) (fun f2 hf2 => ?_)
        refine sv_iload dX5_alter_70 rfl ?_
        refine sv_ireturn dX5_alter_72 rfl ?_
        subst hf2
        refine ⟨_, rfl, rfl, rfl, rfl, Or.inr ⟨by omega, rfl, ⟨fun x hx => ?_, ?_, ?_, ?_, ?_⟩, ?_⟩⟩
        · rw [sv_u_ne (by omega), k1 x (by omega) (by omega)]
        · rw [sv_u_ne (by omega), k1 (o + 7) (by omega) (by omega)]
        · rw [sv_u_ne (by omega), k2 10 (by omega)]
        · rw [sv_u_ne (by omega), k3]
        · rw [sv_u_ne (by omega), k4]
        · rw [sv_u_row, sv_row_eq, hm1]
      · refine sv_bipush dX5_alter_40 (by decide) ?_
        refine sv_ireturn dX5_alter_42 rfl ?_
        exact ⟨_, rfl, rfl, rfl, rfl, Or.inl ⟨by omega, rfl, rfl⟩⟩
set_option maxRecDepth 100000 in
set_option maxHeartbeats 4000000 in
theorem c_X5_set {X : sv_X} {S : sv_S} {f : sv_F} {r : sv_R} {g : sv_G} {o : Nat} {m : Int → Int} (hsh : sv_M5 S r o) (hm : f (o + 1) = m) (w v : Int) (hwi : sv_in w) (hv : sv_in v) (hu : 0 ≤ f o 2 ∧ f o 2 ≤ 6) : sv_C X 1 MX5_set 0 0 [sv_r o, sv_i w, sv_i v] S f r g (sv_qi (fun a f' => ((¬ (0 ≤ w ∧ w ≤ 1) ∨ ¬ ((if w = 0 then 1 else 0) ≤ v ∧ v ≤ (if w = 0 then 8 else 1))) ∧ a = -2 ∧ f' = f) ∨ (¬ (¬ (0 ≤ w ∧ w ≤ 1) ∨ ¬ ((if w = 0 then 1 else 0) ≤ v ∧ v ≤ (if w = 0 then 8 else 1))) ∧ a = m (596 + w) ∧ sp_chg o f f' ∧ f' (o + 1) = sp_up m (596 + w) v)) S r g) := by
  refine sv_met (by decide) (by simp [lg_sl, sv_cv, va_rf, Value.category]) ?_
  refine sv_fr fun hin => ?_
  refine sv_iload_n (i := 1) dX5_set_0 rfl rfl ?_
  refine sv_iconst dX5_set_1 ?_
  refine sv_iconst dX5_set_2 ?_
  refine sv_sp0 (As := [_, _, _]) clX5_81 dX5_set_3 rfl (Nat.le_of_ble_eq_true rfl) (by decide) (by decide) (c_X5_in _ _ _ (by omega) (by omega) (by omega)) ?_
  refine sv_bif_eq (tgt := 35) dX5_set_6 (by decide) (fun h_6 => ?_) (fun h_6 => ?_)
  · refine sv_bipush dX5_set_35 (by decide) ?_
    refine sv_ireturn dX5_set_37 rfl ?_
    refine ⟨_, rfl, rfl, rfl, rfl, Or.inl ⟨?_, rfl, rfl⟩⟩
    by_cases h9 : w = 0
    · rw [if_pos h9, if_pos h9]; omega
    · rw [if_neg h9, if_neg h9]; omega
  · refine sv_iload_n (i := 2) dX5_set_9 rfl rfl ?_
    refine sv_iload_n (i := 1) dX5_set_10 rfl rfl ?_
    refine sv_if_ne (tgt := 18) dX5_set_11 (by decide) (by first | omega | exact hin _ _ | decide | (simp [sv_u, sv_row]; omega) | (simp [sv_u, sv_row]; exact hin _ _) | exact hin1 _ _ | (simp [sv_u, sv_row]; exact hin1 _ _)) (fun h_11 => ?_) (fun h_11 => ?_)
    · refine sv_iconst dX5_set_18 ?_
      refine sv_iload_n (i := 1) dX5_set_19 rfl rfl ?_
      refine sv_if_ne (tgt := 28) dX5_set_20 (by decide) (by first | omega | exact hin _ _ | decide | (simp [sv_u, sv_row]; omega) | (simp [sv_u, sv_row]; exact hin _ _) | exact hin1 _ _ | (simp [sv_u, sv_row]; exact hin1 _ _)) (fun h_20 => ?_) (fun h_20 => ?_)
      · refine sv_iconst dX5_set_28 ?_
        refine sv_sp0 (As := [_, _, _]) clX5_81 dX5_set_29 rfl (Nat.le_of_ble_eq_true rfl) (by decide) (by decide) (c_X5_in _ _ _ (by omega) (by omega) (by omega)) ?_
        refine sv_bif_ne (tgt := 38) dX5_set_32 (by decide) (fun h_32 => ?_) (fun h_32 => ?_)
        · refine sv_aload_n (i := 0) dX5_set_38 rfl rfl ?_
          refine sv_vv0 (As := []) clX5_137 dX5_set_39 ⟨_, rfl, rfl⟩ (by decide) rfl (Nat.le_of_ble_eq_true rfl) (by decide) (by decide) hsh.lt hsh.k (c_X5_keeps hsh hu) (fun f1 hf1 => ?_)
          have k1 : ∀ x, x ≠ o → x ≠ o + 2 → f1 x = f x := fun x a1 a2 => by rw [hf1, sv_u_ne a1, sv_row_ne a2]
          have k2 : ∀ j, j ≠ 2 → f1 o j = f o j := fun j a1 => by rw [hf1]; simp [sv_u, sv_row, a1]
          have k3 : f1 (o + 2) = sp_kpast (f (o + 1)) (f (o + 2)) (f o 2) := by rw [hf1, sv_u_ne (by omega), sv_row_eq]; rfl
          have k4 : f1 o 2 = sp_ku (f o 2) := by rw [hf1]; simp [sv_u]; rfl
          clear hf1
          have hm1 : f1 (o + 1) = m := by rw [k1 (o + 1) (by omega) (by omega)]; exact hm
          refine sv_aload_n (i := 0) dX5_set_42 rfl rfl ?_
          refine sv_getR (kz := 0) flX5_7 dX5_set_43 rfl rfl hsh.lt hsh.k hsh.r1 ?_
          refine sv_sipush dX5_set_46 (by decide) ?_
          refine sv_iload_n (i := 1) dX5_set_49 rfl rfl ?_
          refine sv_iadd dX5_set_50 ?_
          refine sv_iald dX5_set_51 hsh.l1 hsh.s1 (by omega) ?_
          rw [hm1]
          refine sv_istore_n (i := 3) dX5_set_52 rfl (by decide) rfl ?_
          refine sv_aload_n (i := 0) dX5_set_53 rfl rfl ?_
          refine sv_getR (kz := 0) flX5_7 dX5_set_54 rfl rfl hsh.lt hsh.k hsh.r1 ?_
          refine sv_sipush dX5_set_57 (by decide) ?_
          refine sv_iload_n (i := 1) dX5_set_60 rfl rfl ?_
          refine sv_iadd dX5_set_61 ?_
          refine sv_iload_n (i := 2) dX5_set_62 rfl rfl ?_
          refine sv_iast dX5_set_63 hsh.l1 hsh.s1 (by omega) (by first | omega | exact hin _ _ | decide | (simp [sv_u, sv_row]; omega) | (simp [sv_u, sv_row]; exact hin _ _) | exact hin1 _ _ | (simp [sv_u, sv_row]; exact hin1 _ _)) ?_
          refine sv_iload_n (i := 3) dX5_set_64 rfl rfl ?_
          refine sv_ireturn dX5_set_65 rfl ?_
          refine ⟨_, rfl, rfl, rfl, rfl, Or.inr ⟨?_, rfl, ⟨fun x hx => ?_, ?_, ?_, ?_, ?_⟩, ?_⟩⟩
          · by_cases h9 : w = 0
            · rw [if_pos h9, if_pos h9]; omega
            · rw [if_neg h9, if_neg h9]; omega
          · rw [sv_u_ne (by omega), k1 x (by omega) (by omega)]
          · rw [sv_u_ne (by omega), k1 (o + 7) (by omega) (by omega)]
          · rw [sv_u_ne (by omega), k2 10 (by omega)]
          · rw [sv_u_ne (by omega), k3]
          · rw [sv_u_ne (by omega), k4]
          · rw [sv_u_row, sv_row_eq, hm1]
        · refine sv_bipush dX5_set_35 (by decide) ?_
          refine sv_ireturn dX5_set_37 rfl ?_
          refine ⟨_, rfl, rfl, rfl, rfl, Or.inl ⟨?_, rfl, rfl⟩⟩
          by_cases h9 : w = 0
          · rw [if_pos h9, if_pos h9]; omega
          · rw [if_neg h9, if_neg h9]; omega
      · refine sv_bipush dX5_set_23 (by decide) ?_
        refine sv_goto (tgt := 29) dX5_set_25 (by decide) ?_
        refine sv_sp0 (As := [_, _, _]) clX5_81 dX5_set_29 rfl (Nat.le_of_ble_eq_true rfl) (by decide) (by decide) (c_X5_in _ _ _ (by omega) (by omega) (by omega)) ?_
        refine sv_bif_ne (tgt := 38) dX5_set_32 (by decide) (fun h_32 => ?_) (fun h_32 => ?_)
        · refine sv_aload_n (i := 0) dX5_set_38 rfl rfl ?_
          refine sv_vv0 (As := []) clX5_137 dX5_set_39 ⟨_, rfl, rfl⟩ (by decide) rfl (Nat.le_of_ble_eq_true rfl) (by decide) (by decide) hsh.lt hsh.k (c_X5_keeps hsh hu) (fun f1 hf1 => ?_)
          have k1 : ∀ x, x ≠ o → x ≠ o + 2 → f1 x = f x := fun x a1 a2 => by rw [hf1, sv_u_ne a1, sv_row_ne a2]
          have k2 : ∀ j, j ≠ 2 → f1 o j = f o j := fun j a1 => by rw [hf1]; simp [sv_u, sv_row, a1]
          have k3 : f1 (o + 2) = sp_kpast (f (o + 1)) (f (o + 2)) (f o 2) := by rw [hf1, sv_u_ne (by omega), sv_row_eq]; rfl
          have k4 : f1 o 2 = sp_ku (f o 2) := by rw [hf1]; simp [sv_u]; rfl
          clear hf1
          have hm1 : f1 (o + 1) = m := by rw [k1 (o + 1) (by omega) (by omega)]; exact hm
          refine sv_aload_n (i := 0) dX5_set_42 rfl rfl ?_
          refine sv_getR (kz := 0) flX5_7 dX5_set_43 rfl rfl hsh.lt hsh.k hsh.r1 ?_
          refine sv_sipush dX5_set_46 (by decide) ?_
          refine sv_iload_n (i := 1) dX5_set_49 rfl rfl ?_
          refine sv_iadd dX5_set_50 ?_
          refine sv_iald dX5_set_51 hsh.l1 hsh.s1 (by omega) ?_
          rw [hm1]
          refine sv_istore_n (i := 3) dX5_set_52 rfl (by decide) rfl ?_
          refine sv_aload_n (i := 0) dX5_set_53 rfl rfl ?_
          refine sv_getR (kz := 0) flX5_7 dX5_set_54 rfl rfl hsh.lt hsh.k hsh.r1 ?_
          refine sv_sipush dX5_set_57 (by decide) ?_
          refine sv_iload_n (i := 1) dX5_set_60 rfl rfl ?_
          refine sv_iadd dX5_set_61 ?_
          refine sv_iload_n (i := 2) dX5_set_62 rfl rfl ?_
          refine sv_iast dX5_set_63 hsh.l1 hsh.s1 (by omega) (by first | omega | exact hin _ _ | decide | (simp [sv_u, sv_row]; omega) | (simp [sv_u, sv_row]; exact hin _ _) | exact hin1 _ _ | (simp [sv_u, sv_row]; exact hin1 _ _)) ?_
          refine sv_iload_n (i := 3) dX5_set_64 rfl rfl ?_
          refine sv_ireturn dX5_set_65 rfl ?_
          refine ⟨_, rfl, rfl, rfl, rfl, Or.inr ⟨?_, rfl, ⟨fun x hx => ?_, ?_, ?_, ?_, ?_⟩, ?_⟩⟩
          · by_cases h9 : w = 0
            · rw [if_pos h9, if_pos h9]; omega
            · rw [if_neg h9, if_neg h9]; omega
          · rw [sv_u_ne (by omega), k1 x (by omega) (by omega)]
          · rw [sv_u_ne (by omega), k1 (o + 7) (by omega) (by omega)]
          · rw [sv_u_ne (by omega), k2 10 (by omega)]
          · rw [sv_u_ne (by omega), k3]
          · rw [sv_u_ne (by omega), k4]
          · rw [sv_u_row, sv_row_eq, hm1]
        · refine sv_bipush dX5_set_35 (by decide) ?_
          refine sv_ireturn dX5_set_37 rfl ?_
          refine ⟨_, rfl, rfl, rfl, rfl, Or.inl ⟨?_, rfl, rfl⟩⟩
          by_cases h9 : w = 0
          · rw [if_pos h9, if_pos h9]; omega
          · rw [if_neg h9, if_neg h9]; omega
    · refine sv_iconst dX5_set_14 ?_
      refine sv_goto (tgt := 19) dX5_set_15 (by decide) ?_
      refine sv_iload_n (i := 1) dX5_set_19 rfl rfl ?_
      refine sv_if_ne (tgt := 28) dX5_set_20 (by decide) (by first | omega | exact hin _ _ | decide | (simp [sv_u, sv_row]; omega) | (simp [sv_u, sv_row]; exact hin _ _) | exact hin1 _ _ | (simp [sv_u, sv_row]; exact hin1 _ _)) (fun h_20 => ?_) (fun h_20 => ?_)
      · refine sv_iconst dX5_set_28 ?_
        refine sv_sp0 (As := [_, _, _]) clX5_81 dX5_set_29 rfl (Nat.le_of_ble_eq_true rfl) (by decide) (by decide) (c_X5_in _ _ _ (by omega) (by omega) (by omega)) ?_
        refine sv_bif_ne (tgt := 38) dX5_set_32 (by decide) (fun h_32 => ?_) (fun h_32 => ?_)
        · refine sv_aload_n (i := 0) dX5_set_38 rfl rfl ?_
          refine sv_vv0 (As := []) clX5_137 dX5_set_39 ⟨_, rfl, rfl⟩ (by decide) rfl (Nat.le_of_ble_eq_true rfl) (by decide) (by decide) hsh.lt hsh.k (c_X5_keeps hsh hu) (fun f1 hf1 => ?_)
          have k1 : ∀ x, x ≠ o → x ≠ o + 2 → f1 x = f x := fun x a1 a2 => by rw [hf1, sv_u_ne a1, sv_row_ne a2]
          have k2 : ∀ j, j ≠ 2 → f1 o j = f o j := fun j a1 => by rw [hf1]; simp [sv_u, sv_row, a1]
          have k3 : f1 (o + 2) = sp_kpast (f (o + 1)) (f (o + 2)) (f o 2) := by rw [hf1, sv_u_ne (by omega), sv_row_eq]; rfl
          have k4 : f1 o 2 = sp_ku (f o 2) := by rw [hf1]; simp [sv_u]; rfl
          clear hf1
          have hm1 : f1 (o + 1) = m := by rw [k1 (o + 1) (by omega) (by omega)]; exact hm
          refine sv_aload_n (i := 0) dX5_set_42 rfl rfl ?_
          refine sv_getR (kz := 0) flX5_7 dX5_set_43 rfl rfl hsh.lt hsh.k hsh.r1 ?_
          refine sv_sipush dX5_set_46 (by decide) ?_
          refine sv_iload_n (i := 1) dX5_set_49 rfl rfl ?_
          refine sv_iadd dX5_set_50 ?_
          refine sv_iald dX5_set_51 hsh.l1 hsh.s1 (by omega) ?_
          rw [hm1]
          refine sv_istore_n (i := 3) dX5_set_52 rfl (by decide) rfl ?_
          refine sv_aload_n (i := 0) dX5_set_53 rfl rfl ?_
          refine sv_getR (kz := 0) flX5_7 dX5_set_54 rfl rfl hsh.lt hsh.k hsh.r1 ?_
          refine sv_sipush dX5_set_57 (by decide) ?_
          refine sv_iload_n (i := 1) dX5_set_60 rfl rfl ?_
          refine sv_iadd dX5_set_61 ?_
          refine sv_iload_n (i := 2) dX5_set_62 rfl rfl ?_
          refine sv_iast dX5_set_63 hsh.l1 hsh.s1 (by omega) (by first | omega | exact hin _ _ | decide | (simp [sv_u, sv_row]; omega) | (simp [sv_u, sv_row]; exact hin _ _) | exact hin1 _ _ | (simp [sv_u, sv_row]; exact hin1 _ _)) ?_
          refine sv_iload_n (i := 3) dX5_set_64 rfl rfl ?_
          refine sv_ireturn dX5_set_65 rfl ?_
          refine ⟨_, rfl, rfl, rfl, rfl, Or.inr ⟨?_, rfl, ⟨fun x hx => ?_, ?_, ?_, ?_, ?_⟩, ?_⟩⟩
          · by_cases h9 : w = 0
            · rw [if_pos h9, if_pos h9]; omega
            · rw [if_neg h9, if_neg h9]; omega
          · rw [sv_u_ne (by omega), k1 x (by omega) (by omega)]
          · rw [sv_u_ne (by omega), k1 (o + 7) (by omega) (by omega)]
          · rw [sv_u_ne (by omega), k2 10 (by omega)]
          · rw [sv_u_ne (by omega), k3]
          · rw [sv_u_ne (by omega), k4]
          · rw [sv_u_row, sv_row_eq, hm1]
        · refine sv_bipush dX5_set_35 (by decide) ?_
          refine sv_ireturn dX5_set_37 rfl ?_
          refine ⟨_, rfl, rfl, rfl, rfl, Or.inl ⟨?_, rfl, rfl⟩⟩
          by_cases h9 : w = 0
          · rw [if_pos h9, if_pos h9]; omega
          · rw [if_neg h9, if_neg h9]; omega
      · refine sv_bipush dX5_set_23 (by decide) ?_
        refine sv_goto (tgt := 29) dX5_set_25 (by decide) ?_
        refine sv_sp0 (As := [_, _, _]) clX5_81 dX5_set_29 rfl (Nat.le_of_ble_eq_true rfl) (by decide) (by decide) (c_X5_in _ _ _ (by omega) (by omega) (by omega)) ?_
        refine sv_bif_ne (tgt := 38) dX5_set_32 (by decide) (fun h_32 => ?_) (fun h_32 => ?_)
        · refine sv_aload_n (i := 0) dX5_set_38 rfl rfl ?_
          refine sv_vv0 (As := []) clX5_137 dX5_set_39 ⟨_, rfl, rfl⟩ (by decide) rfl (Nat.le_of_ble_eq_true rfl) (by decide) (by decide) hsh.lt hsh.k (c_X5_keeps hsh hu) (fun f1 hf1 => ?_)
          have k1 : ∀ x, x ≠ o → x ≠ o + 2 → f1 x = f x := fun x a1 a2 => by rw [hf1, sv_u_ne a1, sv_row_ne a2]
          have k2 : ∀ j, j ≠ 2 → f1 o j = f o j := fun j a1 => by rw [hf1]; simp [sv_u, sv_row, a1]
          have k3 : f1 (o + 2) = sp_kpast (f (o + 1)) (f (o + 2)) (f o 2) := by rw [hf1, sv_u_ne (by omega), sv_row_eq]; rfl
          have k4 : f1 o 2 = sp_ku (f o 2) := by rw [hf1]; simp [sv_u]; rfl
          clear hf1
          have hm1 : f1 (o + 1) = m := by rw [k1 (o + 1) (by omega) (by omega)]; exact hm
          refine sv_aload_n (i := 0) dX5_set_42 rfl rfl ?_
          refine sv_getR (kz := 0) flX5_7 dX5_set_43 rfl rfl hsh.lt hsh.k hsh.r1 ?_
          refine sv_sipush dX5_set_46 (by decide) ?_
          refine sv_iload_n (i := 1) dX5_set_49 rfl rfl ?_
          refine sv_iadd dX5_set_50 ?_
          refine sv_iald dX5_set_51 hsh.l1 hsh.s1 (by omega) ?_
          rw [hm1]
          refine sv_istore_n (i := 3) dX5_set_52 rfl (by decide) rfl ?_
          refine sv_aload_n (i := 0) dX5_set_53 rfl rfl ?_
          refine sv_getR (kz := 0) flX5_7 dX5_set_54 rfl rfl hsh.lt hsh.k hsh.r1 ?_
          refine sv_sipush dX5_set_57 (by decide) ?_
          refine sv_iload_n (i := 1) dX5_set_60 rfl rfl ?_
          refine sv_iadd dX5_set_61 ?_
          refine sv_iload_n (i := 2) dX5_set_62 rfl rfl ?_
          refine sv_iast dX5_set_63 hsh.l1 hsh.s1 (by omega) (by first | omega | exact hin _ _ | decide | (simp [sv_u, sv_row]; omega) | (simp [sv_u, sv_row]; exact hin _ _) | exact hin1 _ _ | (simp [sv_u, sv_row]; exact hin1 _ _)) ?_
          refine sv_iload_n (i := 3) dX5_set_64 rfl rfl ?_
          refine sv_ireturn dX5_set_65 rfl ?_
          refine ⟨_, rfl, rfl, rfl, rfl, Or.inr ⟨?_, rfl, ⟨fun x hx => ?_, ?_, ?_, ?_, ?_⟩, ?_⟩⟩
          · by_cases h9 : w = 0
            · rw [if_pos h9, if_pos h9]; omega
            · rw [if_neg h9, if_neg h9]; omega
          · rw [sv_u_ne (by omega), k1 x (by omega) (by omega)]
          · rw [sv_u_ne (by omega), k1 (o + 7) (by omega) (by omega)]
          · rw [sv_u_ne (by omega), k2 10 (by omega)]
          · rw [sv_u_ne (by omega), k3]
          · rw [sv_u_ne (by omega), k4]
          · rw [sv_u_row, sv_row_eq, hm1]
        · refine sv_bipush dX5_set_35 (by decide) ?_
          refine sv_ireturn dX5_set_37 rfl ?_
          refine ⟨_, rfl, rfl, rfl, rfl, Or.inl ⟨?_, rfl, rfl⟩⟩
          by_cases h9 : w = 0
          · rw [if_pos h9, if_pos h9]; omega
          · rw [if_neg h9, if_neg h9]; omega
set_option maxRecDepth 100000 in
set_option maxHeartbeats 4000000 in
theorem c_X5_load {X : sv_X} {S : sv_S} {f : sv_F} {r : sv_R} {g : sv_G} {o : Nat} {m : Int → Int} (hsh : sv_M5 S r o) (hm : f (o + 1) = m) (hw : sp_wt m) (hg : sp_wg m) (k : Int) (hk : sv_in k) (hu : 0 ≤ f o 2 ∧ f o 2 ≤ 6) : sv_C X 4 MX5_load 0 0 [sv_r o, sv_i k] S f r g (sv_qi (fun a f' => (sp_slot m k = -1 ∧ a = -2 ∧ sp_sq o f f') ∨ (sp_slot m k ≠ -1 ∧ sp_R m k ≠ -1 ∧ a = -3 ∧ sp_sq o f f') ∨ (sp_slot m k ≠ -1 ∧ sp_R m k = -1 ∧ a = sp_lform m k ∧ sp_chg o f f' ∧ sp_load m k (f' (o + 1)))) S r g) := by
  refine sv_met (by decide) (by simp [lg_sl, sv_cv, va_rf, Value.category]) ?_
  refine sv_fr fun hin => ?_
  have h51 : ∀ (fx f1 : sv_F), sp_rq o m k f f1 → (∀ x, x ≠ o → x ≠ o + 2 → x ≠ o + 3 → fx x = f1 x) → (∀ j, j ≠ 2 → j ≠ 4 → fx o j = f1 o j) → fx (o + 2) = sp_kpast (f1 (o + 1)) (f1 (o + 2)) (f1 o 2) → fx o 2 = sp_ku (f1 o 2) → fx (o + 1) = m → fx o 4 = sp_lform m k → (∀ j, 0 ≤ j → j < 6 + 2 * sp_lform m k → fx (o + 3) j = sp_rz (sp_V m k) (m (29 * sp_slot m k + 1)) (sp_lform m k) j) → sp_slot m k ≠ -1 → sp_R m k = -1 → sv_T X (sv_rm 4 0 0) MX5_load (sv_Zm X 0 0 (sv_qi (fun a f' => (sp_slot m k = -1 ∧ a = -2 ∧ sp_sq o f f') ∨ (sp_slot m k ≠ -1 ∧ sp_R m k ≠ -1 ∧ a = -3 ∧ sp_sq o f f') ∨ (sp_slot m k ≠ -1 ∧ sp_R m k = -1 ∧ a = sp_lform m k ∧ sp_chg o f f' ∧ sp_load m k (f' (o + 1)))) S r g)) 0 0 51 [some (sv_r o), some (sv_i k)] [] S (fx) r g := by
    intro fx f1 hf1 g1 g2 g3 g4 g5 g6 g7 hsl hR
    have hgf := hg.f
    obtain ⟨s0, s1, s2⟩ := sp_slot_in hsl
    have hfr := hw.frm s0 s1
    have hlf : 1 ≤ sp_lform m k ∧ sp_lform m k ≤ 3 := by unfold sp_lform; split <;> omega
    have hfx4 : 1 ≤ fx o 4 ∧ fx o 4 ≤ 3 := by rw [g6]; exact hlf
    refine sv_aload_n (i := 0) dX5_load_51 rfl rfl ?_
    refine sv_vv0 (As := []) clX5_146 dX5_load_52 ⟨_, rfl, rfl⟩ (by decide) rfl (Nat.le_of_ble_eq_true rfl) (by decide) (by decide) hsh.lt hsh.k (c_X5_givesGame hsh (by omega)) (fun f4 hf4 => ?_)
    have i1 : ∀ x, x ≠ o + 1 → f4 x = fx x := fun x a1 => by rw [hf4, sv_row_ne a1]
    have i2 : ∀ j, f4 (o + 1) j = if j = 582 then fx o 4 else if 583 ≤ j ∧ j < 595 then (if j - 583 < 6 + 2 * fx o 4 then fx (o + 3) (j - 583) else 0) else fx (o + 1) j := fun j => by rw [hf4, sv_row_eq]
    refine sv_aload_n (i := 0) dX5_load_55 rfl rfl ?_
    refine sv_getR (kz := 0) flX5_7 dX5_load_56 rfl rfl hsh.lt hsh.k hsh.r1 ?_
    refine sv_sipush dX5_load_59 (by decide) ?_
    refine sv_iload_n (i := 1) dX5_load_62 rfl rfl ?_
    refine sv_iast dX5_load_63 hsh.l1 hsh.s1 (by omega) (by first | omega | exact hin _ _ | decide | (simp [sv_u, sv_row]; omega) | (simp [sv_u, sv_row]; exact hin _ _) | exact hin1 _ _ | (simp [sv_u, sv_row]; exact hin1 _ _)) ?_
    refine sv_aload_n (i := 0) dX5_load_64 rfl rfl ?_
    refine sv_getI (kz := 4) flX5_46 dX5_load_65 rfl rfl hsh.lt hsh.k ?_
    refine sv_ireturn dX5_load_68 rfl ?_
    refine ⟨_, rfl, rfl, rfl, rfl, Or.inr (Or.inr ⟨hsl, hR, ?_, ⟨fun x hx => ?_, ?_, ?_, ?_, ?_⟩, ?_⟩)⟩
    · rw [sv_u_ne (by omega), i1 o (by omega), g6]
    · rw [sv_u_ne (by omega), i1 x (by omega), g1 x (by omega) (by omega) (by omega), hf1.1 x (by omega) (by omega) (by omega) (by omega)]
    · rw [sv_u_ne (by omega), i1 (o + 7) (by omega), g1 (o + 7) (by omega) (by omega) (by omega), hf1.1 (o + 7) (by omega) (by omega) (by omega) (by omega)]
    · rw [sv_u_ne (by omega), i1 o (by omega), g2 10 (by omega) (by omega), hf1.2.1 10 (by omega) (by omega)]
    · rw [sv_u_ne (by omega), i1 (o + 2) (by omega), g3, hf1.m, hf1.1 (o + 2) (by omega) (by omega) (by omega) (by omega), hf1.2.1 2 (by omega) (by omega)]
    · rw [sv_u_ne (by omega), i1 o (by omega), g4, hf1.2.1 2 (by omega) (by omega)]
    · have e9 : ∀ j, j ≠ 595 → sv_u f4 (o + 1) 595 k (o + 1) j = f4 (o + 1) j := fun j a1 => by simp [sv_u, a1]
      refine ⟨fun j a1 a2 => ?_, ?_, ?_, ?_, ?_, fun j a1 a2 => ?_⟩
      · rw [e9 j (by omega), i2, if_neg (by omega), if_neg (by omega), g5]
      · rw [e9 _ (by omega), i2, if_pos rfl, g6]
      · simp [sv_u]
      · rw [e9 _ (by omega), i2, if_neg (by omega), if_neg (by omega), g5]
      · rw [e9 _ (by omega), i2, if_neg (by omega), if_neg (by omega), g5]
      · rw [e9 _ (by omega), i2, if_neg (by omega), if_pos (by omega), if_pos (by rw [g6]; omega), show 583 + j - 583 = j by omega]
        exact g7 j a1 a2
  refine sv_aload_n (i := 0) dX5_load_0 rfl rfl ?_
  refine sv_iload_n (i := 1) dX5_load_1 rfl rfl ?_
  refine sv_vp0 (As := [_]) clX5_59 dX5_load_2 ⟨_, rfl, rfl⟩ (by decide) rfl (Nat.le_of_ble_eq_true rfl) (by decide) (by decide) hsh.lt hsh.k (c_X5_slotOf hsh (by first | exact hm | exact hm1 | exact hm2 | rfl | (simp only [sv_u_ne, sv_row_ne, sv_row_eq, ne_eq, Nat.add_left_cancel_iff, Nat.reduceEqDiff, not_false_eq_true, Nat.add_eq_left, reduceCtorEq, OfNat.ofNat_ne_zero, OfNat.one_ne_ofNat, OfNat.ofNat_ne_one, one_ne_zero, Nat.succ_ne_self]; first | exact hm | rfl) | (simp [sv_u_ne, sv_row_ne, sv_row_eq]; done) | (simp [sv_u_ne, sv_row_ne, sv_row_eq]; exact hm)) _ (by omega) hw.c) ?_
  have hst := sp_slot_spec m k
  have hcc := hw.c
  have hcm := hw.cm
  have hgf := hg.f
  have hgr := hg.r
  refine sv_iconst dX5_load_5 ?_
  refine sv_icmp_ne (tgt := 12) dX5_load_6 (by decide) (by first | omega | exact hin _ _ | decide | (simp [sv_u, sv_row]; omega) | (simp [sv_u, sv_row]; exact hin _ _) | exact hin1 _ _ | (simp [sv_u, sv_row]; exact hin1 _ _)) (by first | omega | exact hin _ _ | decide | (simp [sv_u, sv_row]; omega) | (simp [sv_u, sv_row]; exact hin _ _) | exact hin1 _ _ | (simp [sv_u, sv_row]; exact hin1 _ _)) (fun h_6 => ?_) (fun h_6 => ?_)
  · have hsl : sp_slot m k ≠ -1 := by assumption
    obtain ⟨s0, s1, s2⟩ := sp_slot_in hsl
    have hnm := hw.num s0 s1
    have hfr := hw.frm s0 s1
    refine sv_aload_n (i := 0) dX5_load_12 rfl rfl ?_
    refine sv_iload_n (i := 1) dX5_load_13 rfl rfl ?_
    refine sv_vi0 (As := [_]) clX5_152 dX5_load_14 ⟨_, rfl, rfl⟩ (by decide) rfl (Nat.le_of_ble_eq_true rfl) (by decide) (by decide) hsh.lt hsh.k (c_X5_reads hsh hm hw _ (by omega)) (fun a f1 hf1 => ?_)
    obtain ⟨ha1, hf1⟩ := hf1
    subst ha1
    refine sv_bif_ne (tgt := 23) dX5_load_17 (by decide) (fun h_17 => ?_) (fun h_17 => ?_)
    · have hu1 : 0 ≤ f1 o 2 ∧ f1 o 2 ≤ 6 := by rw [hf1.2.1 2 (by omega) (by omega)]; exact hu
      have hm1 : f1 (o + 1) = m := hf1.m.trans hm
      refine sv_aload_n (i := 0) dX5_load_23 rfl rfl ?_
      refine sv_vv0 (As := []) clX5_137 dX5_load_24 ⟨_, rfl, rfl⟩ (by decide) rfl (Nat.le_of_ble_eq_true rfl) (by decide) (by decide) hsh.lt hsh.k (c_X5_keeps hsh hu1) (fun f2 hf2 => ?_)
      have k1 : ∀ x, x ≠ o → x ≠ o + 2 → f2 x = f1 x := fun x a1 a2 => by rw [hf2, sv_u_ne a1, sv_row_ne a2]
      have k2 : ∀ j, j ≠ 2 → f2 o j = f1 o j := fun j a1 => by rw [hf2]; simp [sv_u, sv_row, a1]
      have k3 : f2 (o + 2) = sp_kpast (f1 (o + 1)) (f1 (o + 2)) (f1 o 2) := by rw [hf2, sv_u_ne (by omega), sv_row_eq]; rfl
      have k4 : f2 o 2 = sp_ku (f1 o 2) := by rw [hf2]; simp [sv_u]; rfl
      clear hf2
      have hm2 : f2 (o + 1) = m := by rw [k1 (o + 1) (by omega) (by omega)]; exact hm1
      obtain ⟨z1, z2⟩ := hf1.2.2.1 (by assumption)
      have hokv := sp_V_ok' hw (n := k) (by assumption)
      have y1 : f2 o 4 = m (29 * sp_slot m k + 1) := by rw [k2 4 (by omega)]; exact z1
      have y2 : ∀ j, 0 ≤ j → j < 6 + 2 * m (29 * sp_slot m k + 1) → f2 (o + 3) j = sp_V m k j := fun j a1 a2 => by rw [k1 (o + 3) (by omega) (by omega)]; exact z2 j a1 a2
      have hok2 : sp_ok (f2 (o + 3)) (6 + 2 * f2 o 4) := fun j a1 a2 => by
        rw [y1] at a2
        rw [y2 j a1 a2]
        exact hokv j a1 a2
      have hfm2 : 1 ≤ f2 o 4 ∧ f2 o 4 ≤ 3 := by rw [y1]; exact hfr
      refine sv_aload_n (i := 0) dX5_load_27 rfl rfl ?_
      refine sv_getR (kz := 0) flX5_7 dX5_load_28 rfl rfl hsh.lt hsh.k hsh.r1 ?_
      refine sv_sipush dX5_load_31 (by decide) ?_
      refine sv_iald dX5_load_34 hsh.l1 hsh.s1 (by omega) ?_
      rw [hm2]
      refine sv_iconst dX5_load_35 ?_
      refine sv_icmp_ne (tgt := 51) dX5_load_36 (by decide) (by first | omega | exact hin _ _ | decide | (simp [sv_u, sv_row]; omega) | (simp [sv_u, sv_row]; exact hin _ _) | exact hin1 _ _ | (simp [sv_u, sv_row]; exact hin1 _ _)) (by first | omega | exact hin _ _ | decide | (simp [sv_u, sv_row]; omega) | (simp [sv_u, sv_row]; exact hin _ _) | exact hin1 _ _ | (simp [sv_u, sv_row]; exact hin1 _ _)) (fun h_36 => ?_) (fun h_36 => ?_)
      · first
          | exact h51 f2 f1 hf1 (fun x a1 a2 _ => k1 x a1 a2) (fun j a1 _ => k2 j a1) k3 k4 hm2 (by rw [y1]; unfold sp_lform; rw [if_neg (by assumption)]) (fun j a1 a2 => by
              have e : sp_lform m k = m (29 * sp_slot m k + 1) := by unfold sp_lform; rw [if_neg (by assumption)]
              rw [e] at a2 ⊢
              rw [sp_rz_self (Int.le_refl _)]
              exact y2 j a1 a2) hsl (by assumption)
          | (have e : sp_lform m k = max (m (29 * sp_slot m k + 1)) (m 582) := by unfold sp_lform; rw [if_pos (by assumption)]
             exact h51 f3 f1 hf1 (fun x a1 a2 a3 => by rw [hf3, sv_u_ne a1, sv_row_ne a3]; exact k1 x a1 a2) (fun j a1 a2 => by rw [hf3]; simp [sv_u, sv_row, a2]; exact k2 j a1) (by rw [hf3, sv_u_ne (by omega), sv_row_ne (by omega)]; exact k3) (by rw [hf3]; simp [sv_u, sv_row]; exact k4) (by rw [hf3, sv_u_ne (by omega), sv_row_ne (by omega)]; exact hm2) (by rw [e, hf3]; simp [sv_u]; rw [y1]) (fun j a1 a2 => by
              rw [e] at a2 ⊢
              rw [hf3, sv_u_ne (by omega), sv_row_eq, y1, ← sp_rz_max]
              exact sp_rz_congr hfr.1 (by omega) (by omega) y2 j a1 a2) hsl (by assumption))
      · refine sv_aload_n (i := 0) dX5_load_39 rfl rfl ?_
        refine sv_aload_n (i := 0) dX5_load_40 rfl rfl ?_
        refine sv_getR (kz := 0) flX5_7 dX5_load_41 rfl rfl hsh.lt hsh.k hsh.r1 ?_
        refine sv_sipush dX5_load_44 (by decide) ?_
        refine sv_iald dX5_load_47 hsh.l1 hsh.s1 (by omega) ?_
        rw [hm2]
        refine sv_vv0 (As := [_]) clX5_70 dX5_load_48 ⟨_, rfl, rfl⟩ (by decide) rfl (Nat.le_of_ble_eq_true rfl) (by decide) (by decide) hsh.lt hsh.k (c_X5_raisesTo hsh _ (by omega) (by omega) hfm2 (fun _ => hok2)) (fun f3 hf3 => ?_)
        first
          | exact h51 f2 f1 hf1 (fun x a1 a2 _ => k1 x a1 a2) (fun j a1 _ => k2 j a1) k3 k4 hm2 (by rw [y1]; unfold sp_lform; rw [if_neg (by assumption)]) (fun j a1 a2 => by
              have e : sp_lform m k = m (29 * sp_slot m k + 1) := by unfold sp_lform; rw [if_neg (by assumption)]
              rw [e] at a2 ⊢
              rw [sp_rz_self (Int.le_refl _)]
              exact y2 j a1 a2) hsl (by assumption)
          | (have e : sp_lform m k = max (m (29 * sp_slot m k + 1)) (m 582) := by unfold sp_lform; rw [if_pos (by assumption)]
             exact h51 f3 f1 hf1 (fun x a1 a2 a3 => by rw [hf3, sv_u_ne a1, sv_row_ne a3]; exact k1 x a1 a2) (fun j a1 a2 => by rw [hf3]; simp [sv_u, sv_row, a2]; exact k2 j a1) (by rw [hf3, sv_u_ne (by omega), sv_row_ne (by omega)]; exact k3) (by rw [hf3]; simp [sv_u, sv_row]; exact k4) (by rw [hf3, sv_u_ne (by omega), sv_row_ne (by omega)]; exact hm2) (by rw [e, hf3]; simp [sv_u]; rw [y1]) (fun j a1 a2 => by
              rw [e] at a2 ⊢
              rw [hf3, sv_u_ne (by omega), sv_row_eq, y1, ← sp_rz_max]
              exact sp_rz_congr hfr.1 (by omega) (by omega) y2 j a1 a2) hsl (by assumption))
    · refine sv_bipush dX5_load_20 (by decide) ?_
      refine sv_ireturn dX5_load_22 rfl ?_
      exact ⟨_, rfl, rfl, rfl, rfl, Or.inr (Or.inl ⟨by assumption, by assumption, rfl, hf1.sq⟩)⟩
  · refine sv_bipush dX5_load_9 (by decide) ?_
    refine sv_ireturn dX5_load_11 rfl ?_
    exact ⟨_, rfl, rfl, rfl, rfl, Or.inl ⟨by assumption, rfl, sp_sq.rf⟩⟩
