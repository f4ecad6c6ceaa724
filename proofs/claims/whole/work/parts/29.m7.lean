set_option maxRecDepth 100000 in
set_option maxHeartbeats 4000000 in
theorem c_X5_value {X : sv_X} {S : sv_S} {f : sv_F} {r : sv_R} {g : sv_G} {o : Nat} {m : Int → Int} (hsh : sv_M5 S r o) (hm : f (o + 1) = m) (hg : 1 ≤ m 582 ∧ m 582 ≤ 3) (i : Int) (hi : sv_in i) : sv_C X 1 MX5_value 0 0 [sv_r o, sv_i i] S f r g (sv_qp (some (sv_i (if i < 0 then -2 else if i < 6 + 2 * m 582 then m (583 + i) else -1))) S f r g) := by
  refine sv_met (by decide) (by simp [lg_sl, sv_cv, va_rf, Value.category]) ?_
  refine sv_fr fun hin => ?_
  subst hm
  refine sv_iload_n (i := 1) dX5_value_0 rfl rfl ?_
  refine sv_if_ge (tgt := 7) dX5_value_1 (by decide) (by first | omega | exact hin _ _ | decide | (simp [sv_u, sv_row]; omega) | (simp [sv_u, sv_row]; exact hin _ _) | exact hin1 _ _ | (simp [sv_u, sv_row]; exact hin1 _ _)) (fun h_1 => ?_) (fun h_1 => ?_)
  · refine sv_iload_n (i := 1) dX5_value_7 rfl rfl ?_
    refine sv_aload_n (i := 0) dX5_value_8 rfl rfl ?_
    refine sv_getR (kz := 0) flX5_7 dX5_value_9 rfl rfl hsh.lt hsh.k hsh.r1 ?_
    refine sv_sipush dX5_value_12 (by decide) ?_
    refine sv_iald dX5_value_15 hsh.l1 hsh.s1 (by omega) ?_
    refine sv_sp0 (As := [_]) clX5_52 dX5_value_16 rfl (Nat.le_of_ble_eq_true rfl) (by decide) (by decide) (c_X5_valuesOf _) ?_
    refine sv_icmp_ge (tgt := 35) dX5_value_19 (by decide) (by first | omega | exact hin _ _ | decide | (simp [sv_u, sv_row]; omega) | (simp [sv_u, sv_row]; exact hin _ _) | exact hin1 _ _ | (simp [sv_u, sv_row]; exact hin1 _ _)) (by first | omega | exact hin _ _ | decide | (simp [sv_u, sv_row]; omega) | (simp [sv_u, sv_row]; exact hin _ _) | exact hin1 _ _ | (simp [sv_u, sv_row]; exact hin1 _ _)) (fun h_19 => ?_) (fun h_19 => ?_)
    · refine sv_iconst dX5_value_35 ?_
      refine sv_ireturn dX5_value_36 rfl ?_
      exact ⟨by first | rw [if_neg (by omega), if_pos (by omega)] | rw [if_neg (by omega), if_neg (by omega)], rfl, rfl, rfl, rfl⟩
    · refine sv_aload_n (i := 0) dX5_value_22 rfl rfl ?_
      refine sv_getR (kz := 0) flX5_7 dX5_value_23 rfl rfl hsh.lt hsh.k hsh.r1 ?_
      refine sv_sipush dX5_value_26 (by decide) ?_
      refine sv_iload_n (i := 1) dX5_value_29 rfl rfl ?_
      refine sv_iadd dX5_value_30 ?_
      refine sv_iald dX5_value_31 hsh.l1 hsh.s1 (by omega) ?_
      refine sv_goto (tgt := 36) dX5_value_32 (by decide) ?_
      refine sv_ireturn dX5_value_36 rfl ?_
      exact ⟨by first | rw [if_neg (by omega), if_pos (by omega)] | rw [if_neg (by omega), if_neg (by omega)], rfl, rfl, rfl, rfl⟩
  · refine sv_bipush dX5_value_4 (by decide) ?_
    refine sv_ireturn dX5_value_6 rfl ?_
    exact ⟨by simp [h_1], rfl, rfl, rfl, rfl⟩
set_option maxRecDepth 100000 in
set_option maxHeartbeats 4000000 in
theorem c_X5_basedOn {X : sv_X} {S : sv_S} {f : sv_F} {r : sv_R} {g : sv_G} {o : Nat} {m : Int → Int} (hsh : sv_M5 S r o) (hm : f (o + 1) = m) (hc : 0 ≤ m 580 ∧ m 580 ≤ 20) (n : Int) (hn : sv_in n) : sv_C X 1 MX5_basedOn 0 0 [sv_r o, sv_i n] S f r g (sv_qp (some (sv_i (sp_bo m n))) S f r g) := by
  refine sv_met (by decide) (by simp [lg_sl, sv_cv, va_rf, Value.category]) ?_
  refine sv_fr fun hin => ?_
  subst hm
  have lp : ∀ (k : Nat) (d : Int) (i : Int), f (o + 1) 580 - i < (k : Int) → (0 ≤ i ∧ i ≤ f (o + 1) 580) → (d = sp_cnt (fun s => if f (o + 1) (29 * s + 3) = n then 1 else 0) i.toNat) → sv_T X (sv_rm 1 0 0) MX5_basedOn (sv_Zm X 0 0 (sv_qp (some (sv_i (sp_bo (f (o + 1)) n))) S f r g)) 0 0 4 [some (sv_r o), some (sv_i n), some (sv_i d), some (sv_i i)] [] S (f) r g := by
    intro k
    induction k with
    | zero =>
      intro d i hk h1 hd
      exact absurd hk (by omega)
    | succ k ih =>
      intro d i hk h1 hd
      refine sv_iload_n (i := 3) dX5_basedOn_4 rfl rfl ?_
      refine sv_aload_n (i := 0) dX5_basedOn_5 rfl rfl ?_
      refine sv_getR (kz := 0) flX5_7 dX5_basedOn_6 rfl rfl hsh.lt hsh.k hsh.r1 ?_
      refine sv_sipush dX5_basedOn_9 (by decide) ?_
      refine sv_iald dX5_basedOn_12 hsh.l1 hsh.s1 (by omega) ?_
      refine sv_icmp_ge (tgt := 40) dX5_basedOn_13 (by decide) (by first | omega | exact hin _ _ | decide | (simp [sv_u, sv_row]; omega) | (simp [sv_u, sv_row]; exact hin _ _) | exact hin1 _ _ | (simp [sv_u, sv_row]; exact hin1 _ _)) (by first | omega | exact hin _ _ | decide | (simp [sv_u, sv_row]; omega) | (simp [sv_u, sv_row]; exact hin _ _) | exact hin1 _ _ | (simp [sv_u, sv_row]; exact hin1 _ _)) (fun h_13 => ?_) (fun h_13 => ?_)
      · refine sv_iload_n (i := 2) dX5_basedOn_40 rfl rfl ?_
        refine sv_ireturn dX5_basedOn_41 rfl ?_
        exact ⟨by rw [hd]; unfold sp_bo; rw [show i = f (o + 1) 580 by omega], rfl, rfl, rfl, rfl⟩
      · refine sv_iload_n (i := 2) dX5_basedOn_16 rfl rfl ?_
        refine sv_aload_n (i := 0) dX5_basedOn_17 rfl rfl ?_
        refine sv_iload_n (i := 3) dX5_basedOn_18 rfl rfl ?_
        refine sv_iconst dX5_basedOn_19 ?_
        refine sv_vp0 (As := [_, _]) clX5_38 dX5_basedOn_20 ⟨_, rfl, rfl⟩ (by decide) rfl (Nat.le_of_ble_eq_true rfl) (by decide) (by decide) hsh.lt hsh.k (c_X5_of hsh (by first | exact hm | rfl | (simp only [sv_u_ne, sv_row_ne, sv_row_eq, ne_eq, Nat.add_left_cancel_iff, Nat.reduceEqDiff, not_false_eq_true, Nat.add_eq_left, reduceCtorEq, OfNat.ofNat_ne_zero, OfNat.one_ne_ofNat, OfNat.ofNat_ne_one, one_ne_zero, Nat.succ_ne_self]; first | exact hm | rfl) | (simp [sv_u_ne, sv_row_ne, sv_row_eq]; done) | (simp [sv_u_ne, sv_row_ne, sv_row_eq]; exact hm)) _ _ (by omega)) ?_
        refine sv_iload_n (i := 1) dX5_basedOn_23 rfl rfl ?_
        refine sv_icmp_ne (tgt := 31) dX5_basedOn_24 (by decide) (by first | omega | exact hin _ _ | decide | (simp [sv_u, sv_row]; omega) | (simp [sv_u, sv_row]; exact hin _ _) | exact hin1 _ _ | (simp [sv_u, sv_row]; exact hin1 _ _)) (by first | omega | exact hin _ _ | decide | (simp [sv_u, sv_row]; omega) | (simp [sv_u, sv_row]; exact hin _ _) | exact hin1 _ _ | (simp [sv_u, sv_row]; exact hin1 _ _)) (fun h_24 => ?_) (fun h_24 => ?_)
        · refine sv_iconst dX5_basedOn_31 ?_
          refine sv_iadd dX5_basedOn_32 ?_
          refine sv_istore_n (i := 2) dX5_basedOn_33 rfl (by decide) rfl ?_
          refine sv_iinc dX5_basedOn_34 rfl (by decide) rfl ?_
          refine sv_goto (tgt := 4) dX5_basedOn_37 (by decide) ?_
          exact ih _ _ (by omega) (by omega) (by rw [sp_cnt_s (by omega), hd]; simp [h_24]; try omega)
        · refine sv_iconst dX5_basedOn_27 ?_
          refine sv_goto (tgt := 32) dX5_basedOn_28 (by decide) ?_
          refine sv_iadd dX5_basedOn_32 ?_
          refine sv_istore_n (i := 2) dX5_basedOn_33 rfl (by decide) rfl ?_
          refine sv_iinc dX5_basedOn_34 rfl (by decide) rfl ?_
          refine sv_goto (tgt := 4) dX5_basedOn_37 (by decide) ?_
          exact ih _ _ (by omega) (by omega) (by rw [sp_cnt_s (by omega), hd]; simp [h_24]; try omega)
  refine sv_iconst dX5_basedOn_0 ?_
  refine sv_istore_n (i := 2) dX5_basedOn_1 rfl (by decide) rfl ?_
  refine sv_iconst dX5_basedOn_2 ?_
  refine sv_istore_n (i := 3) dX5_basedOn_3 rfl (by decide) rfl ?_
  exact lp (f (o + 1) 580 + 1).toNat 0 0 (by omega) (by omega) rfl
set_option maxRecDepth 100000 in
set_option maxHeartbeats 4000000 in
theorem c_X5_weight {X : sv_X} {S : sv_S} {f : sv_F} {r : sv_R} {g : sv_G} {o : Nat} {m : Int → Int} (hsh : sv_M5 S r o) (hm : f (o + 1) = m) (s : Int) (hs : 0 ≤ s ∧ s < 20) : sv_C X 2 MX5_weight 0 0 [sv_r o, sv_i s] S f r g (sv_qp (some (sv_i (sp_we m s))) S f r g) := by
  refine sv_met (by decide) (by simp [lg_sl, sv_cv, va_rf, Value.category]) ?_
  refine sv_fr fun hin => ?_
  refine sv_aload_n (i := 0) dX5_weight_0 rfl rfl ?_
  refine sv_iload_n (i := 1) dX5_weight_1 rfl rfl ?_
  refine sv_vp0 (As := [_]) clX5_66 dX5_weight_2 ⟨_, rfl, rfl⟩ (by decide) rfl (Nat.le_of_ble_eq_true rfl) (by decide) (by decide) hsh.lt hsh.k (c_X5_isWhole hsh (by first | exact hm | rfl | (simp only [sv_u_ne, sv_row_ne, sv_row_eq, ne_eq, Nat.add_left_cancel_iff, Nat.reduceEqDiff, not_false_eq_true, Nat.add_eq_left, reduceCtorEq, OfNat.ofNat_ne_zero, OfNat.one_ne_ofNat, OfNat.ofNat_ne_one, one_ne_zero, Nat.succ_ne_self]; first | exact hm | rfl) | (simp [sv_u_ne, sv_row_ne, sv_row_eq]; done) | (simp [sv_u_ne, sv_row_ne, sv_row_eq]; exact hm)) _ (by omega)) ?_
  refine sv_bif_eq (tgt := 17) dX5_weight_5 (by decide) (fun h_5 => ?_) (fun h_5 => ?_)
  · refine sv_iconst dX5_weight_17 ?_
    refine sv_iconst dX5_weight_18 ?_
    refine sv_aload_n (i := 0) dX5_weight_19 rfl rfl ?_
    refine sv_iload_n (i := 1) dX5_weight_20 rfl rfl ?_
    refine sv_iconst dX5_weight_21 ?_
    refine sv_vp0 (As := [_, _]) clX5_38 dX5_weight_22 ⟨_, rfl, rfl⟩ (by decide) rfl (Nat.le_of_ble_eq_true rfl) (by decide) (by decide) hsh.lt hsh.k (c_X5_of hsh (by first | exact hm | rfl | (simp only [sv_u_ne, sv_row_ne, sv_row_eq, ne_eq, Nat.add_left_cancel_iff, Nat.reduceEqDiff, not_false_eq_true, Nat.add_eq_left, reduceCtorEq, OfNat.ofNat_ne_zero, OfNat.one_ne_ofNat, OfNat.ofNat_ne_one, one_ne_zero, Nat.succ_ne_self]; first | exact hm | rfl) | (simp [sv_u_ne, sv_row_ne, sv_row_eq]; done) | (simp [sv_u_ne, sv_row_ne, sv_row_eq]; exact hm)) _ _ (by omega)) ?_
    refine sv_imul dX5_weight_25 ?_
    refine sv_iadd dX5_weight_26 ?_
    refine sv_ireturn dX5_weight_27 rfl ?_
    exact ⟨by unfold sp_we; simp [h_5], rfl, rfl, rfl, rfl⟩
  · refine sv_aload_n (i := 0) dX5_weight_8 rfl rfl ?_
    refine sv_iload_n (i := 1) dX5_weight_9 rfl rfl ?_
    refine sv_iconst dX5_weight_10 ?_
    refine sv_vp0 (As := [_, _]) clX5_38 dX5_weight_11 ⟨_, rfl, rfl⟩ (by decide) rfl (Nat.le_of_ble_eq_true rfl) (by decide) (by decide) hsh.lt hsh.k (c_X5_of hsh (by first | exact hm | rfl | (simp only [sv_u_ne, sv_row_ne, sv_row_eq, ne_eq, Nat.add_left_cancel_iff, Nat.reduceEqDiff, not_false_eq_true, Nat.add_eq_left, reduceCtorEq, OfNat.ofNat_ne_zero, OfNat.one_ne_ofNat, OfNat.ofNat_ne_one, one_ne_zero, Nat.succ_ne_self]; first | exact hm | rfl) | (simp [sv_u_ne, sv_row_ne, sv_row_eq]; done) | (simp [sv_u_ne, sv_row_ne, sv_row_eq]; exact hm)) _ _ (by omega)) ?_
    refine sv_goto (tgt := 27) dX5_weight_14 (by decide) ?_
    refine sv_ireturn dX5_weight_27 rfl ?_
    exact ⟨by unfold sp_we; simp [h_5], rfl, rfl, rfl, rfl⟩
set_option maxRecDepth 100000 in
set_option maxHeartbeats 4000000 in
theorem c_X5_weights {X : sv_X} {S : sv_S} {f : sv_F} {r : sv_R} {g : sv_G} {o : Nat} {m : Int → Int} (hsh : sv_M5 S r o) (hm : f (o + 1) = m) (hw : sp_wt m) : sv_C X 3 MX5_weights 0 0 [sv_r o] S f r g (sv_qp (some (sv_i (sp_wes m))) S f r g) := by
  refine sv_met (by decide) (by simp [lg_sl, sv_cv, va_rf, Value.category]) ?_
  refine sv_fr fun hin => ?_
  subst hm
  have hc := hw.c
  have lp : ∀ (k : Nat) (d : Int) (i : Int), f (o + 1) 580 - i < (k : Int) → (0 ≤ i ∧ i ≤ f (o + 1) 580) → (d = sp_cnt (sp_we (f (o + 1))) i.toNat) → sv_T X (sv_rm 3 0 0) MX5_weights (sv_Zm X 0 0 (sv_qp (some (sv_i (sp_wes (f (o + 1))))) S f r g)) 0 0 4 [some (sv_r o), some (sv_i d), some (sv_i i)] [] S (f) r g := by
    intro k
    induction k with
    | zero =>
      intro d i hk h1 hd
      exact absurd hk (by omega)
    | succ k ih =>
      intro d i hk h1 hd
      refine sv_iload_n (i := 2) dX5_weights_4 rfl rfl ?_
      refine sv_aload_n (i := 0) dX5_weights_5 rfl rfl ?_
      refine sv_getR (kz := 0) flX5_7 dX5_weights_6 rfl rfl hsh.lt hsh.k hsh.r1 ?_
      refine sv_sipush dX5_weights_9 (by decide) ?_
      refine sv_iald dX5_weights_12 hsh.l1 hsh.s1 (by omega) ?_
      refine sv_icmp_ge (tgt := 30) dX5_weights_13 (by decide) (by first | omega | exact hin _ _ | decide | (simp [sv_u, sv_row]; omega) | (simp [sv_u, sv_row]; exact hin _ _) | exact hin1 _ _ | (simp [sv_u, sv_row]; exact hin1 _ _)) (by first | omega | exact hin _ _ | decide | (simp [sv_u, sv_row]; omega) | (simp [sv_u, sv_row]; exact hin _ _) | exact hin1 _ _ | (simp [sv_u, sv_row]; exact hin1 _ _)) (fun h_13 => ?_) (fun h_13 => ?_)
      · refine sv_iload_n (i := 1) dX5_weights_30 rfl rfl ?_
        refine sv_ireturn dX5_weights_31 rfl ?_
        exact ⟨by rw [hd]; unfold sp_wes; rw [show i = f (o + 1) 580 by omega], rfl, rfl, rfl, rfl⟩
      · refine sv_iload_n (i := 1) dX5_weights_16 rfl rfl ?_
        refine sv_aload_n (i := 0) dX5_weights_17 rfl rfl ?_
        refine sv_iload_n (i := 2) dX5_weights_18 rfl rfl ?_
        refine sv_vp0 (As := [_]) clX5_170 dX5_weights_19 ⟨_, rfl, rfl⟩ (by decide) rfl (Nat.le_of_ble_eq_true rfl) (by decide) (by decide) hsh.lt hsh.k (c_X5_weight hsh (by first | exact hm | rfl | (simp only [sv_u_ne, sv_row_ne, sv_row_eq, ne_eq, Nat.add_left_cancel_iff, Nat.reduceEqDiff, not_false_eq_true, Nat.add_eq_left, reduceCtorEq, OfNat.ofNat_ne_zero, OfNat.one_ne_ofNat, OfNat.ofNat_ne_one, one_ne_zero, Nat.succ_ne_self]; first | exact hm | rfl) | (simp [sv_u_ne, sv_row_ne, sv_row_eq]; done) | (simp [sv_u_ne, sv_row_ne, sv_row_eq]; exact hm)) _ (by omega)) ?_
        refine sv_iadd dX5_weights_22 ?_
        refine sv_istore_n (i := 1) dX5_weights_23 rfl (by decide) rfl ?_
        refine sv_iinc dX5_weights_24 rfl (by decide) rfl ?_
        refine sv_goto (tgt := 4) dX5_weights_27 (by decide) ?_
        exact ih _ _ (by omega) (by omega) (by rw [sp_cnt_s (by omega), hd])
  refine sv_iconst dX5_weights_0 ?_
  refine sv_istore_n (i := 1) dX5_weights_1 rfl (by decide) rfl ?_
  refine sv_iconst dX5_weights_2 ?_
  refine sv_istore_n (i := 2) dX5_weights_3 rfl (by decide) rfl ?_
  exact lp (f (o + 1) 580 + 1).toNat 0 0 (by omega) (by omega) rfl
set_option maxRecDepth 100000 in
set_option maxHeartbeats 4000000 in
theorem c_X5_linksOf {X : sv_X} {S : sv_S} {f : sv_F} {r : sv_R} {g : sv_G} {o : Nat} {m : Int → Int} (hsh : sv_M5 S r o) (hm : f (o + 1) = m) (hw : sp_wt m) (n : Int) (hn : 0 ≤ n ∧ n ≤ 2147483647) : sv_C X 3 MX5_linksOf 0 0 [sv_r o, sv_i n] S f r g (sv_qi (fun a f' => a = sp_lk m n ∧ 1 ≤ a ∧ a ≤ 21 ∧ (∀ x, x ≠ o → x ≠ o + 4 → f' x = f x) ∧ ∀ j, j ≠ 7 → f' o j = f o j) S r g) := by
  refine sv_met (by decide) (by simp [lg_sl, sv_cv, va_rf, Value.category]) ?_
  refine sv_fr fun hin => ?_
  refine sv_aload_n (i := 0) dX5_linksOf_0 rfl rfl ?_
  refine sv_iload_n (i := 1) dX5_linksOf_1 rfl rfl ?_
  refine sv_vv0 (As := [_]) clX5_62 dX5_linksOf_2 ⟨_, rfl, rfl⟩ (by decide) rfl (Nat.le_of_ble_eq_true rfl) (by decide) (by decide) hsh.lt hsh.k (c_X5_climbs hsh (by first | exact hm | rfl | (simp only [sv_u_ne, sv_row_ne, sv_row_eq, ne_eq, Nat.add_left_cancel_iff, Nat.reduceEqDiff, not_false_eq_true, Nat.add_eq_left, reduceCtorEq, OfNat.ofNat_ne_zero, OfNat.one_ne_ofNat, OfNat.ofNat_ne_one, one_ne_zero, Nat.succ_ne_self]; first | exact hm | rfl) | (simp [sv_u_ne, sv_row_ne, sv_row_eq]; done) | (simp [sv_u_ne, sv_row_ne, sv_row_eq]; exact hm)) hw _ (by omega)) (fun f0 hf0 => ?_)
  obtain ⟨L, hL1, hL2, hL3, hL4, hf0⟩ := hf0
  refine sv_aload_n (i := 0) dX5_linksOf_5 rfl rfl ?_
  refine sv_getI (kz := 7) flX5_56 dX5_linksOf_6 rfl rfl hsh.lt hsh.k ?_
  refine sv_ireturn dX5_linksOf_9 rfl ?_
  refine ⟨_, rfl, rfl, rfl, rfl, ?_⟩
  rw [hf0, sp_lk_eq hL2 hL3 hL4]
  refine ⟨by simp [sv_u], by simp [sv_u]; omega, by simp [sv_u]; omega, fun x a b => by rw [sv_u_ne a, sv_row_ne b], fun j a => by simp [sv_u, sv_row, a]⟩
set_option maxRecDepth 100000 in
set_option maxHeartbeats 4000000 in
theorem c_X5_part {X : sv_X} {S : sv_S} {f : sv_F} {r : sv_R} {g : sv_G} {o : Nat} {m : Int → Int} (hsh : sv_M5 S r o) (hm : f (o + 1) = m) (hw : sp_wt m) (s w : Int) (hs : 0 ≤ s ∧ s < m 580) (hw7 : 0 ≤ w ∧ w ≤ 7) : sv_C X 4 MX5_part 0 0 [sv_r o, sv_i s, sv_i w] S f r g (sv_qi (fun a f' => a = sp_part m s w ∧ sp_sq o f f') S r g) := by
  refine sv_met (by decide) (by simp [lg_sl, sv_cv, va_rf, Value.category]) ?_
  refine sv_fr fun hin => ?_
  have hcc := hw.c
  have hnm := hw.num hs.1 hs.2
  have hcm := hw.cm
  have hnm' : m (29 * s + 0) = m (29 * s) := by rw [show 29 * s + 0 = 29 * s by omega]
  refine sv_iload_n (i := 2) dX5_part_0 rfl rfl ?_
  by_cases hk0 : w = 0
  · subst hk0
    refine sv_tsw (tgt := 44) (off := 43) dX5_part_1 (by omega) (by omega) (by omega) rfl (by decide) ?_
    refine sv_aload_n (i := 0) dX5_part_44 rfl rfl ?_
    refine sv_iload_n (i := 1) dX5_part_45 rfl rfl ?_
    refine sv_iconst dX5_part_46 ?_
    refine sv_vp0 (As := [_, _]) clX5_38 dX5_part_47 ⟨_, rfl, rfl⟩ (by decide) rfl (Nat.le_of_ble_eq_true rfl) (by decide) (by decide) hsh.lt hsh.k (c_X5_of hsh (by first | exact hm | rfl | (simp only [sv_u_ne, sv_row_ne, sv_row_eq, ne_eq, Nat.add_left_cancel_iff, Nat.reduceEqDiff, not_false_eq_true, Nat.add_eq_left, reduceCtorEq, OfNat.ofNat_ne_zero, OfNat.one_ne_ofNat, OfNat.ofNat_ne_one, one_ne_zero, Nat.succ_ne_self]; first | exact hm | rfl) | (simp [sv_u_ne, sv_row_ne, sv_row_eq]; done) | (simp [sv_u_ne, sv_row_ne, sv_row_eq]; exact hm)) _ _ (by omega)) ?_
    refine sv_ireturn dX5_part_50 rfl ?_
    exact ⟨_, rfl, rfl, rfl, rfl, by simp [sp_part], sp_sq.rf⟩
  by_cases hk1 : w = 1
  · subst hk1
    refine sv_tsw (tgt := 51) (off := 50) dX5_part_1 (by omega) (by omega) (by omega) rfl (by decide) ?_
    refine sv_aload_n (i := 0) dX5_part_51 rfl rfl ?_
    refine sv_iload_n (i := 1) dX5_part_52 rfl rfl ?_
    refine sv_iconst dX5_part_53 ?_
    refine sv_vp0 (As := [_, _]) clX5_38 dX5_part_54 ⟨_, rfl, rfl⟩ (by decide) rfl (Nat.le_of_ble_eq_true rfl) (by decide) (by decide) hsh.lt hsh.k (c_X5_of hsh (by first | exact hm | rfl | (simp only [sv_u_ne, sv_row_ne, sv_row_eq, ne_eq, Nat.add_left_cancel_iff, Nat.reduceEqDiff, not_false_eq_true, Nat.add_eq_left, reduceCtorEq, OfNat.ofNat_ne_zero, OfNat.one_ne_ofNat, OfNat.ofNat_ne_one, one_ne_zero, Nat.succ_ne_self]; first | exact hm | rfl) | (simp [sv_u_ne, sv_row_ne, sv_row_eq]; done) | (simp [sv_u_ne, sv_row_ne, sv_row_eq]; exact hm)) _ _ (by omega)) ?_
    refine sv_ireturn dX5_part_57 rfl ?_
    exact ⟨_, rfl, rfl, rfl, rfl, by simp [sp_part], sp_sq.rf⟩
  by_cases hk2 : w = 2
  · subst hk2
    refine sv_tsw (tgt := 58) (off := 57) dX5_part_1 (by omega) (by omega) (by omega) rfl (by decide) ?_
    refine sv_aload_n (i := 0) dX5_part_58 rfl rfl ?_
    refine sv_iload_n (i := 1) dX5_part_59 rfl rfl ?_
    refine sv_iconst dX5_part_60 ?_
    refine sv_vp0 (As := [_, _]) clX5_38 dX5_part_61 ⟨_, rfl, rfl⟩ (by decide) rfl (Nat.le_of_ble_eq_true rfl) (by decide) (by decide) hsh.lt hsh.k (c_X5_of hsh (by first | exact hm | rfl | (simp only [sv_u_ne, sv_row_ne, sv_row_eq, ne_eq, Nat.add_left_cancel_iff, Nat.reduceEqDiff, not_false_eq_true, Nat.add_eq_left, reduceCtorEq, OfNat.ofNat_ne_zero, OfNat.one_ne_ofNat, OfNat.ofNat_ne_one, one_ne_zero, Nat.succ_ne_self]; first | exact hm | rfl) | (simp [sv_u_ne, sv_row_ne, sv_row_eq]; done) | (simp [sv_u_ne, sv_row_ne, sv_row_eq]; exact hm)) _ _ (by omega)) ?_
    refine sv_ireturn dX5_part_64 rfl ?_
    exact ⟨_, rfl, rfl, rfl, rfl, by simp [sp_part], sp_sq.rf⟩
  by_cases hk3 : w = 3
  · subst hk3
    refine sv_tsw (tgt := 65) (off := 64) dX5_part_1 (by omega) (by omega) (by omega) rfl (by decide) ?_
    refine sv_aload_n (i := 0) dX5_part_65 rfl rfl ?_
    refine sv_iload_n (i := 1) dX5_part_66 rfl rfl ?_
    refine sv_iconst dX5_part_67 ?_
    refine sv_vp0 (As := [_, _]) clX5_38 dX5_part_68 ⟨_, rfl, rfl⟩ (by decide) rfl (Nat.le_of_ble_eq_true rfl) (by decide) (by decide) hsh.lt hsh.k (c_X5_of hsh (by first | exact hm | rfl | (simp only [sv_u_ne, sv_row_ne, sv_row_eq, ne_eq, Nat.add_left_cancel_iff, Nat.reduceEqDiff, not_false_eq_true, Nat.add_eq_left, reduceCtorEq, OfNat.ofNat_ne_zero, OfNat.one_ne_ofNat, OfNat.ofNat_ne_one, one_ne_zero, Nat.succ_ne_self]; first | exact hm | rfl) | (simp [sv_u_ne, sv_row_ne, sv_row_eq]; done) | (simp [sv_u_ne, sv_row_ne, sv_row_eq]; exact hm)) _ _ (by omega)) ?_
    refine sv_ireturn dX5_part_71 rfl ?_
    exact ⟨_, rfl, rfl, rfl, rfl, by simp [sp_part], sp_sq.rf⟩
  by_cases hk4 : w = 4
  · subst hk4
    refine sv_tsw (tgt := 72) (off := 71) dX5_part_1 (by omega) (by omega) (by omega) rfl (by decide) ?_
    refine sv_aload_n (i := 0) dX5_part_72 rfl rfl ?_
    refine sv_aload_n (i := 0) dX5_part_73 rfl rfl ?_
    refine sv_iload_n (i := 1) dX5_part_74 rfl rfl ?_
    refine sv_iconst dX5_part_75 ?_
    refine sv_vp0 (As := [_, _]) clX5_38 dX5_part_76 ⟨_, rfl, rfl⟩ (by decide) rfl (Nat.le_of_ble_eq_true rfl) (by decide) (by decide) hsh.lt hsh.k (c_X5_of hsh (by first | exact hm | rfl | (simp only [sv_u_ne, sv_row_ne, sv_row_eq, ne_eq, Nat.add_left_cancel_iff, Nat.reduceEqDiff, not_false_eq_true, Nat.add_eq_left, reduceCtorEq, OfNat.ofNat_ne_zero, OfNat.one_ne_ofNat, OfNat.ofNat_ne_one, one_ne_zero, Nat.succ_ne_self]; first | exact hm | rfl) | (simp [sv_u_ne, sv_row_ne, sv_row_eq]; done) | (simp [sv_u_ne, sv_row_ne, sv_row_eq]; exact hm)) _ _ (by omega)) ?_
    rw [hnm']
    refine sv_vi0 (As := [_]) clX5_173 dX5_part_79 ⟨_, rfl, rfl⟩ (by decide) rfl (Nat.le_of_ble_eq_true rfl) (by decide) (by decide) hsh.lt hsh.k (c_X5_linksOf hsh (by first | exact hm | rfl | (simp only [sv_u_ne, sv_row_ne, sv_row_eq, ne_eq, Nat.add_left_cancel_iff, Nat.reduceEqDiff, not_false_eq_true, Nat.add_eq_left, reduceCtorEq, OfNat.ofNat_ne_zero, OfNat.one_ne_ofNat, OfNat.ofNat_ne_one, one_ne_zero, Nat.succ_ne_self]; first | exact hm | rfl) | (simp [sv_u_ne, sv_row_ne, sv_row_eq]; done) | (simp [sv_u_ne, sv_row_ne, sv_row_eq]; exact hm)) hw _ (by omega)) (fun a f0 hf0 => ?_)
    refine sv_ireturn dX5_part_82 rfl ?_
    exact ⟨_, rfl, rfl, rfl, rfl, by simp [sp_part, hf0.1], fun x a1 a2 a3 a4 a5 a6 a7 => hf0.2.2.2.1 x a1 a3, hf0.2.2.2.2 2 (by omega), hf0.2.2.2.2 10 (by omega)⟩
  by_cases hk5 : w = 5
  · subst hk5
    refine sv_tsw (tgt := 83) (off := 82) dX5_part_1 (by omega) (by omega) (by omega) rfl (by decide) ?_
    refine sv_aload_n (i := 0) dX5_part_83 rfl rfl ?_
    refine sv_aload_n (i := 0) dX5_part_84 rfl rfl ?_
    refine sv_iload_n (i := 1) dX5_part_85 rfl rfl ?_
    refine sv_iconst dX5_part_86 ?_
    refine sv_vp0 (As := [_, _]) clX5_38 dX5_part_87 ⟨_, rfl, rfl⟩ (by decide) rfl (Nat.le_of_ble_eq_true rfl) (by decide) (by decide) hsh.lt hsh.k (c_X5_of hsh (by first | exact hm | rfl | (simp only [sv_u_ne, sv_row_ne, sv_row_eq, ne_eq, Nat.add_left_cancel_iff, Nat.reduceEqDiff, not_false_eq_true, Nat.add_eq_left, reduceCtorEq, OfNat.ofNat_ne_zero, OfNat.one_ne_ofNat, OfNat.ofNat_ne_one, one_ne_zero, Nat.succ_ne_self]; first | exact hm | rfl) | (simp [sv_u_ne, sv_row_ne, sv_row_eq]; done) | (simp [sv_u_ne, sv_row_ne, sv_row_eq]; exact hm)) _ _ (by omega)) ?_
    rw [hnm']
    refine sv_vi0 (As := [_]) clX5_152 dX5_part_90 ⟨_, rfl, rfl⟩ (by decide) rfl (Nat.le_of_ble_eq_true rfl) (by decide) (by decide) hsh.lt hsh.k (c_X5_reads hsh (by first | exact hm | rfl | (simp only [sv_u_ne, sv_row_ne, sv_row_eq, ne_eq, Nat.add_left_cancel_iff, Nat.reduceEqDiff, not_false_eq_true, Nat.add_eq_left, reduceCtorEq, OfNat.ofNat_ne_zero, OfNat.one_ne_ofNat, OfNat.ofNat_ne_one, one_ne_zero, Nat.succ_ne_self]; first | exact hm | rfl) | (simp [sv_u_ne, sv_row_ne, sv_row_eq]; done) | (simp [sv_u_ne, sv_row_ne, sv_row_eq]; exact hm)) hw _ (by omega)) (fun a f0 hf0 => ?_)
    obtain ⟨ha0, hf0⟩ := hf0
    subst ha0
    refine sv_bif_eq (tgt := 100) dX5_part_93 (by decide) (fun h_93 => ?_) (fun h_93 => ?_)
    · refine sv_iconst dX5_part_100 ?_
      refine sv_ireturn dX5_part_101 rfl ?_
      exact ⟨_, rfl, rfl, rfl, rfl, by simp [sp_part, h_93], hf0.sq⟩
    · refine sv_iconst dX5_part_96 ?_
      refine sv_goto (tgt := 101) dX5_part_97 (by decide) ?_
      refine sv_ireturn dX5_part_101 rfl ?_
      exact ⟨_, rfl, rfl, rfl, rfl, by simp [sp_part, h_93], hf0.sq⟩
  by_cases hk6 : w = 6
  · subst hk6
    refine sv_tsw (tgt := 102) (off := 101) dX5_part_1 (by omega) (by omega) (by omega) rfl (by decide) ?_
    refine sv_aload_n (i := 0) dX5_part_102 rfl rfl ?_
    refine sv_iload_n (i := 1) dX5_part_103 rfl rfl ?_
    refine sv_vp0 (As := [_]) clX5_170 dX5_part_104 ⟨_, rfl, rfl⟩ (by decide) rfl (Nat.le_of_ble_eq_true rfl) (by decide) (by decide) hsh.lt hsh.k (c_X5_weight hsh (by first | exact hm | rfl | (simp only [sv_u_ne, sv_row_ne, sv_row_eq, ne_eq, Nat.add_left_cancel_iff, Nat.reduceEqDiff, not_false_eq_true, Nat.add_eq_left, reduceCtorEq, OfNat.ofNat_ne_zero, OfNat.one_ne_ofNat, OfNat.ofNat_ne_one, one_ne_zero, Nat.succ_ne_self]; first | exact hm | rfl) | (simp [sv_u_ne, sv_row_ne, sv_row_eq]; done) | (simp [sv_u_ne, sv_row_ne, sv_row_eq]; exact hm)) _ (by omega)) ?_
    refine sv_ireturn dX5_part_107 rfl ?_
    exact ⟨_, rfl, rfl, rfl, rfl, by simp [sp_part], sp_sq.rf⟩
  have hk7 : w = 7 := by omega
  subst hk7
  refine sv_tswd (tgt := 108) dX5_part_1 (by omega) (by omega) (by decide) ?_
  refine sv_aload_n (i := 0) dX5_part_108 rfl rfl ?_
  refine sv_aload_n (i := 0) dX5_part_109 rfl rfl ?_
  refine sv_iload_n (i := 1) dX5_part_110 rfl rfl ?_
  refine sv_iconst dX5_part_111 ?_
  refine sv_vp0 (As := [_, _]) clX5_38 dX5_part_112 ⟨_, rfl, rfl⟩ (by decide) rfl (Nat.le_of_ble_eq_true rfl) (by decide) (by decide) hsh.lt hsh.k (c_X5_of hsh (by first | exact hm | rfl | (simp only [sv_u_ne, sv_row_ne, sv_row_eq, ne_eq, Nat.add_left_cancel_iff, Nat.reduceEqDiff, not_false_eq_true, Nat.add_eq_left, reduceCtorEq, OfNat.ofNat_ne_zero, OfNat.one_ne_ofNat, OfNat.ofNat_ne_one, one_ne_zero, Nat.succ_ne_self]; first | exact hm | rfl) | (simp [sv_u_ne, sv_row_ne, sv_row_eq]; done) | (simp [sv_u_ne, sv_row_ne, sv_row_eq]; exact hm)) _ _ (by omega)) ?_
  rw [hnm']
  refine sv_vp0 (As := [_]) clX5_167 dX5_part_115 ⟨_, rfl, rfl⟩ (by decide) rfl (Nat.le_of_ble_eq_true rfl) (by decide) (by decide) hsh.lt hsh.k (c_X5_basedOn hsh (by first | exact hm | rfl | (simp only [sv_u_ne, sv_row_ne, sv_row_eq, ne_eq, Nat.add_left_cancel_iff, Nat.reduceEqDiff, not_false_eq_true, Nat.add_eq_left, reduceCtorEq, OfNat.ofNat_ne_zero, OfNat.one_ne_ofNat, OfNat.ofNat_ne_one, one_ne_zero, Nat.succ_ne_self]; first | exact hm | rfl) | (simp [sv_u_ne, sv_row_ne, sv_row_eq]; done) | (simp [sv_u_ne, sv_row_ne, sv_row_eq]; exact hm)) hw.c _ (by omega)) ?_
  refine sv_ireturn dX5_part_118 rfl ?_
  exact ⟨_, rfl, rfl, rfl, rfl, by simp [sp_part], sp_sq.rf⟩

set_option maxRecDepth 100000 in
set_option maxHeartbeats 4000000 in
theorem c_X5_kept {X : sv_X} {S : sv_S} {f : sv_F} {r : sv_R} {g : sv_G} {o : Nat} {m : Int → Int} (hsh : sv_M5 S r o) (hm : f (o + 1) = m) (hw : sp_wt m) (k w : Int) (hk : sv_in k) (hw7 : sv_in w) : sv_C X 5 MX5_kept 0 0 [sv_r o, sv_i k, sv_i w] S f r g (sv_qi (fun a f' => a = (if k < 0 ∨ ¬ (0 ≤ w ∧ w ≤ 7) then -2 else if sp_slot m k = -1 then -1 else sp_part m (sp_slot m k) w) ∧ sp_sq o f f') S r g) := by
  refine sv_met (by decide) (by simp [lg_sl, sv_cv, va_rf, Value.category]) ?_
  refine sv_fr fun hin => ?_
  refine sv_iload_n (i := 1) dX5_kept_0 rfl rfl ?_
  refine sv_if_lt (tgt := 14) dX5_kept_1 (by decide) (by first | omega | exact hin _ _ | decide | (simp [sv_u, sv_row]; omega) | (simp [sv_u, sv_row]; exact hin _ _) | exact hin1 _ _ | (simp [sv_u, sv_row]; exact hin1 _ _)) (fun h_1 => ?_) (fun h_1 => ?_)
  · refine sv_bipush dX5_kept_14 (by decide) ?_
    refine sv_ireturn dX5_kept_16 rfl ?_
    exact ⟨_, rfl, rfl, rfl, rfl, by rw [if_pos (by omega)], sp_sq.rf⟩
  · refine sv_iload_n (i := 2) dX5_kept_4 rfl rfl ?_
    refine sv_iconst dX5_kept_5 ?_
    refine sv_bipush dX5_kept_6 (by decide) ?_
    refine sv_sp0 (As := [_, _, _]) clX5_81 dX5_kept_8 rfl (Nat.le_of_ble_eq_true rfl) (by decide) (by decide) (c_X5_in _ _ _ (by omega) (by omega) (by omega)) ?_
    refine sv_bif_ne (tgt := 17) dX5_kept_11 (by decide) (fun h_11 => ?_) (fun h_11 => ?_)
    · refine sv_aload_n (i := 0) dX5_kept_17 rfl rfl ?_
      refine sv_iload_n (i := 1) dX5_kept_18 rfl rfl ?_
      refine sv_vp0 (As := [_]) clX5_59 dX5_kept_19 ⟨_, rfl, rfl⟩ (by decide) rfl (Nat.le_of_ble_eq_true rfl) (by decide) (by decide) hsh.lt hsh.k (c_X5_slotOf hsh (by first | exact hm | rfl | (simp only [sv_u_ne, sv_row_ne, sv_row_eq, ne_eq, Nat.add_left_cancel_iff, Nat.reduceEqDiff, not_false_eq_true, Nat.add_eq_left, reduceCtorEq, OfNat.ofNat_ne_zero, OfNat.one_ne_ofNat, OfNat.ofNat_ne_one, one_ne_zero, Nat.succ_ne_self]; first | exact hm | rfl) | (simp [sv_u_ne, sv_row_ne, sv_row_eq]; done) | (simp [sv_u_ne, sv_row_ne, sv_row_eq]; exact hm)) _ (by omega) hw.c) ?_
      have hst := sp_slot_spec m k
      have hcc := hw.c
      refine sv_istore_n (i := 3) dX5_kept_22 rfl (by decide) rfl ?_
      refine sv_iload_n (i := 3) dX5_kept_23 rfl rfl ?_
      refine sv_iconst dX5_kept_24 ?_
      refine sv_icmp_ne (tgt := 32) dX5_kept_25 (by decide) (by first | omega | exact hin _ _ | decide | (simp [sv_u, sv_row]; omega) | (simp [sv_u, sv_row]; exact hin _ _) | exact hin1 _ _ | (simp [sv_u, sv_row]; exact hin1 _ _)) (by first | omega | exact hin _ _ | decide | (simp [sv_u, sv_row]; omega) | (simp [sv_u, sv_row]; exact hin _ _) | exact hin1 _ _ | (simp [sv_u, sv_row]; exact hin1 _ _)) (fun h_25 => ?_) (fun h_25 => ?_)
      · refine sv_aload_n (i := 0) dX5_kept_32 rfl rfl ?_
        refine sv_iload_n (i := 3) dX5_kept_33 rfl rfl ?_
        refine sv_iload_n (i := 2) dX5_kept_34 rfl rfl ?_
        refine sv_vi0 (As := [_, _]) clX5_182 dX5_kept_35 ⟨_, rfl, rfl⟩ (by decide) rfl (Nat.le_of_ble_eq_true rfl) (by decide) (by decide) hsh.lt hsh.k (c_X5_part hsh (by first | exact hm | rfl | (simp only [sv_u_ne, sv_row_ne, sv_row_eq, ne_eq, Nat.add_left_cancel_iff, Nat.reduceEqDiff, not_false_eq_true, Nat.add_eq_left, reduceCtorEq, OfNat.ofNat_ne_zero, OfNat.one_ne_ofNat, OfNat.ofNat_ne_one, one_ne_zero, Nat.succ_ne_self]; first | exact hm | rfl) | (simp [sv_u_ne, sv_row_ne, sv_row_eq]; done) | (simp [sv_u_ne, sv_row_ne, sv_row_eq]; exact hm)) hw _ _ (by omega) (by omega)) (fun a f0 hf0 => ?_)
        refine sv_ireturn dX5_kept_38 rfl ?_
        first
          | exact ⟨_, rfl, rfl, rfl, rfl, by rw [if_neg (by omega), if_pos (by assumption)], sp_sq.rf⟩
          | exact ⟨_, rfl, rfl, rfl, rfl, by rw [if_neg (by omega), if_neg (by assumption)]; exact hf0.1, hf0.2⟩
      · refine sv_iconst dX5_kept_28 ?_
        refine sv_goto (tgt := 38) dX5_kept_29 (by decide) ?_
        refine sv_ireturn dX5_kept_38 rfl ?_
        first
          | exact ⟨_, rfl, rfl, rfl, rfl, by rw [if_neg (by omega), if_pos (by assumption)], sp_sq.rf⟩
          | exact ⟨_, rfl, rfl, rfl, rfl, by rw [if_neg (by omega), if_neg (by assumption)]; exact hf0.1, hf0.2⟩
    · refine sv_bipush dX5_kept_14 (by decide) ?_
      refine sv_ireturn dX5_kept_16 rfl ?_
      exact ⟨_, rfl, rfl, rfl, rfl, by rw [if_pos (by omega)], sp_sq.rf⟩
set_option maxRecDepth 100000 in
set_option maxHeartbeats 4000000 in
theorem c_X5_entry {X : sv_X} {S : sv_S} {f : sv_F} {r : sv_R} {g : sv_G} {o : Nat} {m : Int → Int} (hsh : sv_M5 S r o) (hm : f (o + 1) = m) (hw : sp_wt m) (k i w : Int) (hk : sv_in k) (hi : sv_in i) (hw7 : sv_in w) : sv_C X 2 MX5_entry 0 0 [sv_r o, sv_i k, sv_i i, sv_i w] S f r g (sv_qp (some (sv_i (if k < 0 ∨ i < 0 ∨ ¬ (0 ≤ w ∧ w ≤ 1) then -2 else if sp_slot m k = -1 ∨ m (29 * sp_slot m k + 4) ≤ i then -1 else if w = 0 then m (29 * sp_slot m k + (5 + i)) else m (29 * sp_slot m k + (17 + i))))) S f r g) := by
  refine sv_met (by decide) (by simp [lg_sl, sv_cv, va_rf, Value.category]) ?_
  refine sv_fr fun hin => ?_
  refine sv_iload_n (i := 1) dX5_entry_0 rfl rfl ?_
  refine sv_if_lt (tgt := 17) dX5_entry_1 (by decide) (by first | omega | exact hin _ _ | decide | (simp [sv_u, sv_row]; omega) | (simp [sv_u, sv_row]; exact hin _ _) | exact hin1 _ _ | (simp [sv_u, sv_row]; exact hin1 _ _)) (fun h_1 => ?_) (fun h_1 => ?_)
  · refine sv_bipush dX5_entry_17 (by decide) ?_
    refine sv_ireturn dX5_entry_19 rfl ?_
    exact ⟨by rw [if_pos (by omega)], rfl, rfl, rfl, rfl⟩
  · refine sv_iload_n (i := 2) dX5_entry_4 rfl rfl ?_
    refine sv_if_lt (tgt := 17) dX5_entry_5 (by decide) (by first | omega | exact hin _ _ | decide | (simp [sv_u, sv_row]; omega) | (simp [sv_u, sv_row]; exact hin _ _) | exact hin1 _ _ | (simp [sv_u, sv_row]; exact hin1 _ _)) (fun h_5 => ?_) (fun h_5 => ?_)
    · refine sv_bipush dX5_entry_17 (by decide) ?_
      refine sv_ireturn dX5_entry_19 rfl ?_
      exact ⟨by rw [if_pos (by omega)], rfl, rfl, rfl, rfl⟩
    · refine sv_iload_n (i := 3) dX5_entry_8 rfl rfl ?_
      refine sv_iconst dX5_entry_9 ?_
      refine sv_iconst dX5_entry_10 ?_
      refine sv_sp0 (As := [_, _, _]) clX5_81 dX5_entry_11 rfl (Nat.le_of_ble_eq_true rfl) (by decide) (by decide) (c_X5_in _ _ _ (by omega) (by omega) (by omega)) ?_
      refine sv_bif_ne (tgt := 20) dX5_entry_14 (by decide) (fun h_14 => ?_) (fun h_14 => ?_)
      · refine sv_aload_n (i := 0) dX5_entry_20 rfl rfl ?_
        refine sv_iload_n (i := 1) dX5_entry_21 rfl rfl ?_
        refine sv_vp0 (As := [_]) clX5_59 dX5_entry_22 ⟨_, rfl, rfl⟩ (by decide) rfl (Nat.le_of_ble_eq_true rfl) (by decide) (by decide) hsh.lt hsh.k (c_X5_slotOf hsh (by first | exact hm | rfl | (simp only [sv_u_ne, sv_row_ne, sv_row_eq, ne_eq, Nat.add_left_cancel_iff, Nat.reduceEqDiff, not_false_eq_true, Nat.add_eq_left, reduceCtorEq, OfNat.ofNat_ne_zero, OfNat.one_ne_ofNat, OfNat.ofNat_ne_one, one_ne_zero, Nat.succ_ne_self]; first | exact hm | rfl) | (simp [sv_u_ne, sv_row_ne, sv_row_eq]; done) | (simp [sv_u_ne, sv_row_ne, sv_row_eq]; exact hm)) _ (by omega) hw.c) ?_
        have hst := sp_slot_spec m k
        have hcc := hw.c
        refine sv_istore dX5_entry_25 (by decide) rfl ?_
        refine sv_iload dX5_entry_27 rfl ?_
        refine sv_iconst dX5_entry_29 ?_
        refine sv_icmp_eq (tgt := 44) dX5_entry_30 (by decide) (by first | omega | exact hin _ _ | decide | (simp [sv_u, sv_row]; omega) | (simp [sv_u, sv_row]; exact hin _ _) | exact hin1 _ _ | (simp [sv_u, sv_row]; exact hin1 _ _)) (by first | omega | exact hin _ _ | decide | (simp [sv_u, sv_row]; omega) | (simp [sv_u, sv_row]; exact hin _ _) | exact hin1 _ _ | (simp [sv_u, sv_row]; exact hin1 _ _)) (fun h_30 => ?_) (fun h_30 => ?_)
        · refine sv_iconst dX5_entry_44 ?_
          refine sv_ireturn dX5_entry_45 rfl ?_
          exact ⟨by rw [if_neg (by omega), if_pos (by omega)], rfl, rfl, rfl, rfl⟩
        · have hsi := sp_slot_in (m := m) (n := k) (by assumption)
          have hme := hw.many hsi.1 hsi.2.1
          refine sv_iload_n (i := 2) dX5_entry_33 rfl rfl ?_
          refine sv_aload_n (i := 0) dX5_entry_34 rfl rfl ?_
          refine sv_iload dX5_entry_35 rfl ?_
          refine sv_iconst dX5_entry_37 ?_
          refine sv_vp0 (As := [_, _]) clX5_38 dX5_entry_38 ⟨_, rfl, rfl⟩ (by decide) rfl (Nat.le_of_ble_eq_true rfl) (by decide) (by decide) hsh.lt hsh.k (c_X5_of hsh (by first | exact hm | rfl | (simp only [sv_u_ne, sv_row_ne, sv_row_eq, ne_eq, Nat.add_left_cancel_iff, Nat.reduceEqDiff, not_false_eq_true, Nat.add_eq_left, reduceCtorEq, OfNat.ofNat_ne_zero, OfNat.one_ne_ofNat, OfNat.ofNat_ne_one, one_ne_zero, Nat.succ_ne_self]; first | exact hm | rfl) | (simp [sv_u_ne, sv_row_ne, sv_row_eq]; done) | (simp [sv_u_ne, sv_row_ne, sv_row_eq]; exact hm)) _ _ (by omega)) ?_
          refine sv_icmp_lt (tgt := 46) dX5_entry_41 (by decide) (by first | omega | exact hin _ _ | decide | (simp [sv_u, sv_row]; omega) | (simp [sv_u, sv_row]; exact hin _ _) | exact hin1 _ _ | (simp [sv_u, sv_row]; exact hin1 _ _)) (by first | omega | exact hin _ _ | decide | (simp [sv_u, sv_row]; omega) | (simp [sv_u, sv_row]; exact hin _ _) | exact hin1 _ _ | (simp [sv_u, sv_row]; exact hin1 _ _)) (fun h_41 => ?_) (fun h_41 => ?_)
          · refine sv_aload_n (i := 0) dX5_entry_46 rfl rfl ?_
            refine sv_iload dX5_entry_47 rfl ?_
            refine sv_iload_n (i := 3) dX5_entry_49 rfl rfl ?_
            refine sv_if_ne (tgt := 57) dX5_entry_50 (by decide) (by first | omega | exact hin _ _ | decide | (simp [sv_u, sv_row]; omega) | (simp [sv_u, sv_row]; exact hin _ _) | exact hin1 _ _ | (simp [sv_u, sv_row]; exact hin1 _ _)) (fun h_50 => ?_) (fun h_50 => ?_)
            · refine sv_bipush dX5_entry_57 (by decide) ?_
              refine sv_iload_n (i := 2) dX5_entry_59 rfl rfl ?_
              refine sv_iadd dX5_entry_60 ?_
              refine sv_vp0 (As := [_, _]) clX5_38 dX5_entry_61 ⟨_, rfl, rfl⟩ (by decide) rfl (Nat.le_of_ble_eq_true rfl) (by decide) (by decide) hsh.lt hsh.k (c_X5_of hsh (by first | exact hm | rfl | (simp only [sv_u_ne, sv_row_ne, sv_row_eq, ne_eq, Nat.add_left_cancel_iff, Nat.reduceEqDiff, not_false_eq_true, Nat.add_eq_left, reduceCtorEq, OfNat.ofNat_ne_zero, OfNat.one_ne_ofNat, OfNat.ofNat_ne_one, one_ne_zero, Nat.succ_ne_self]; first | exact hm | rfl) | (simp [sv_u_ne, sv_row_ne, sv_row_eq]; done) | (simp [sv_u_ne, sv_row_ne, sv_row_eq]; exact hm)) _ _ (by omega)) ?_
              refine sv_ireturn dX5_entry_64 rfl ?_
              exact ⟨by rw [if_neg (by omega), if_neg (by omega)]; simp [h_50], rfl, rfl, rfl, rfl⟩
            · refine sv_iconst dX5_entry_53 ?_
              refine sv_goto (tgt := 59) dX5_entry_54 (by decide) ?_
              refine sv_iload_n (i := 2) dX5_entry_59 rfl rfl ?_
              refine sv_iadd dX5_entry_60 ?_
              refine sv_vp0 (As := [_, _]) clX5_38 dX5_entry_61 ⟨_, rfl, rfl⟩ (by decide) rfl (Nat.le_of_ble_eq_true rfl) (by decide) (by decide) hsh.lt hsh.k (c_X5_of hsh (by first | exact hm | rfl | (simp only [sv_u_ne, sv_row_ne, sv_row_eq, ne_eq, Nat.add_left_cancel_iff, Nat.reduceEqDiff, not_false_eq_true, Nat.add_eq_left, reduceCtorEq, OfNat.ofNat_ne_zero, OfNat.one_ne_ofNat, OfNat.ofNat_ne_one, one_ne_zero, Nat.succ_ne_self]; first | exact hm | rfl) | (simp [sv_u_ne, sv_row_ne, sv_row_eq]; done) | (simp [sv_u_ne, sv_row_ne, sv_row_eq]; exact hm)) _ _ (by omega)) ?_
              refine sv_ireturn dX5_entry_64 rfl ?_
              exact ⟨by rw [if_neg (by omega), if_neg (by omega)]; simp [h_50], rfl, rfl, rfl, rfl⟩
          · refine sv_iconst dX5_entry_44 ?_
            refine sv_ireturn dX5_entry_45 rfl ?_
            exact ⟨by rw [if_neg (by omega), if_pos (by omega)], rfl, rfl, rfl, rfl⟩
      · refine sv_bipush dX5_entry_17 (by decide) ?_
        refine sv_ireturn dX5_entry_19 rfl ?_
        exact ⟨by rw [if_pos (by omega)], rfl, rfl, rfl, rfl⟩
