set_option maxRecDepth 100000 in
set_option maxHeartbeats 4000000 in
theorem c_X5_in {X : sv_X} {S : sv_S} {f : sv_F} {r : sv_R} {g : sv_G} (a b c : Int) (ha : sv_in a) (hb : sv_in b) (hc : sv_in c) : sv_C X 0 MX5_in 0 0 [sv_i a, sv_i b, sv_i c] S f r g (sv_qp (some (sv_i (if b ≤ a ∧ a ≤ c then 1 else 0))) S f r g) := by
  refine sv_met (by decide) (by simp [lg_sl, sv_cv, va_rf, Value.category]) ?_
  refine sv_iload_n (i := 0) dX5_in_0 rfl rfl ?_
  refine sv_iload_n (i := 1) dX5_in_1 rfl rfl ?_
  refine sv_icmp_lt (tgt := 14) dX5_in_2 (by decide) (by first | omega | exact hin _ _ | decide | (simp [sv_u, sv_row]; omega) | (simp [sv_u, sv_row]; exact hin _ _) | exact hin1 _ _ | (simp [sv_u, sv_row]; exact hin1 _ _)) (by first | omega | exact hin _ _ | decide | (simp [sv_u, sv_row]; omega) | (simp [sv_u, sv_row]; exact hin _ _) | exact hin1 _ _ | (simp [sv_u, sv_row]; exact hin1 _ _)) (fun h_2 => ?_) (fun h_2 => ?_)
  · refine sv_iconst dX5_in_14 ?_
    refine sv_zreturn dX5_in_15 rfl (by first | exact sv_b01 _ | decide) ?_
    exact ⟨by simp_all <;> omega, rfl, rfl, rfl, rfl⟩
  · refine sv_iload_n (i := 0) dX5_in_5 rfl rfl ?_
    refine sv_iload_n (i := 2) dX5_in_6 rfl rfl ?_
    refine sv_icmp_gt (tgt := 14) dX5_in_7 (by decide) (by first | omega | exact hin _ _ | decide | (simp [sv_u, sv_row]; omega) | (simp [sv_u, sv_row]; exact hin _ _) | exact hin1 _ _ | (simp [sv_u, sv_row]; exact hin1 _ _)) (by first | omega | exact hin _ _ | decide | (simp [sv_u, sv_row]; omega) | (simp [sv_u, sv_row]; exact hin _ _) | exact hin1 _ _ | (simp [sv_u, sv_row]; exact hin1 _ _)) (fun h_7 => ?_) (fun h_7 => ?_)
    · refine sv_iconst dX5_in_14 ?_
      refine sv_zreturn dX5_in_15 rfl (by first | exact sv_b01 _ | decide) ?_
      exact ⟨by simp_all <;> omega, rfl, rfl, rfl, rfl⟩
    · refine sv_iconst dX5_in_10 ?_
      refine sv_goto (tgt := 15) dX5_in_11 (by decide) ?_
      refine sv_zreturn dX5_in_15 rfl (by first | exact sv_b01 _ | decide) ?_
      exact ⟨by simp_all <;> omega, rfl, rfl, rfl, rfl⟩
set_option maxRecDepth 100000 in
set_option maxHeartbeats 4000000 in
theorem c_X5_valuesOf {X : sv_X} {S : sv_S} {f : sv_F} {r : sv_R} {g : sv_G} (a : Int) : sv_C X 0 MX5_valuesOf 0 0 [sv_i a] S f r g (sv_qp (some (sv_i (6 + 2 * a))) S f r g) := by
  refine sv_met (by decide) (by simp [lg_sl, sv_cv, va_rf, Value.category]) ?_
  refine sv_bipush dX5_valuesOf_0 (by decide) ?_
  refine sv_iconst dX5_valuesOf_2 ?_
  refine sv_iload_n (i := 0) dX5_valuesOf_3 rfl rfl ?_
  refine sv_imul dX5_valuesOf_4 ?_
  refine sv_iadd dX5_valuesOf_5 ?_
  refine sv_ireturn dX5_valuesOf_6 rfl ?_
  exact ⟨rfl, rfl, rfl, rfl, rfl⟩
set_option maxRecDepth 100000 in
set_option maxHeartbeats 4000000 in
theorem c_X5_of {X : sv_X} {S : sv_S} {f : sv_F} {r : sv_R} {g : sv_G} {o : Nat} {m : Int → Int} (hsh : sv_M5 S r o) (hm : f (o + 1) = m) (a b : Int) (h : 0 ≤ 29 * a + b ∧ 29 * a + b < 598) : sv_C X 0 MX5_of 0 0 [sv_r o, sv_i a, sv_i b] S f r g (sv_qp (some (sv_i (m (29 * a + b)))) S f r g) := by
  refine sv_met (by decide) (by simp [lg_sl, sv_cv, va_rf, Value.category]) ?_
  subst hm
  refine sv_aload_n (i := 0) dX5_of_0 rfl rfl ?_
  refine sv_getR (kz := 0) flX5_7 dX5_of_1 rfl rfl hsh.lt hsh.k hsh.r1 ?_
  refine sv_bipush dX5_of_4 (by decide) ?_
  refine sv_iload_n (i := 1) dX5_of_6 rfl rfl ?_
  refine sv_imul dX5_of_7 ?_
  refine sv_iload_n (i := 2) dX5_of_8 rfl rfl ?_
  refine sv_iadd dX5_of_9 ?_
  refine sv_iald dX5_of_10 hsh.l1 hsh.s1 (by omega) ?_
  refine sv_ireturn dX5_of_11 rfl ?_
  exact ⟨rfl, rfl, rfl, rfl, rfl⟩
set_option maxRecDepth 100000 in
set_option maxHeartbeats 4000000 in
theorem c_X5_put {X : sv_X} {S : sv_S} {f : sv_F} {r : sv_R} {g : sv_G} {o : Nat} (hsh : sv_M5 S r o) (a b c : Int) (h : 0 ≤ 29 * a + b ∧ 29 * a + b < 598) (hc : sv_in c) : sv_C X 0 MX5_put 0 0 [sv_r o, sv_i a, sv_i b, sv_i c] S f r g (sv_qv (fun f' => f' = sv_u f (o + 1) (29 * a + b) c) S r g) := by
  refine sv_met (by decide) (by simp [lg_sl, sv_cv, va_rf, Value.category]) ?_
  refine sv_aload_n (i := 0) dX5_put_0 rfl rfl ?_
  refine sv_getR (kz := 0) flX5_7 dX5_put_1 rfl rfl hsh.lt hsh.k hsh.r1 ?_
  refine sv_bipush dX5_put_4 (by decide) ?_
  refine sv_iload_n (i := 1) dX5_put_6 rfl rfl ?_
  refine sv_imul dX5_put_7 ?_
  refine sv_iload_n (i := 2) dX5_put_8 rfl rfl ?_
  refine sv_iadd dX5_put_9 ?_
  refine sv_iload_n (i := 3) dX5_put_10 rfl rfl ?_
  refine sv_iast dX5_put_11 hsh.l1 hsh.s1 (by omega) (by first | omega | exact hin _ _ | decide | (simp [sv_u, sv_row]; omega) | (simp [sv_u, sv_row]; exact hin _ _) | exact hin1 _ _ | (simp [sv_u, sv_row]; exact hin1 _ _)) ?_
  refine sv_return dX5_put_12 rfl ?_
  exact ⟨rfl, rfl, rfl, rfl, rfl⟩
set_option maxRecDepth 100000 in
set_option maxHeartbeats 4000000 in
theorem c_X5_isWhole {X : sv_X} {S : sv_S} {f : sv_F} {r : sv_R} {g : sv_G} {o : Nat} {m : Int → Int} (hsh : sv_M5 S r o) (hm : f (o + 1) = m) (a : Int) (h : 0 ≤ a ∧ a < 20) : sv_C X 1 MX5_isWhole 0 0 [sv_r o, sv_i a] S f r g (sv_qp (some (sv_i (if m (29 * a + 3) = -1 then 1 else 0))) S f r g) := by
  refine sv_met (by decide) (by simp [lg_sl, sv_cv, va_rf, Value.category]) ?_
  subst hm
  refine sv_fr fun hin => ?_
  refine sv_aload_n (i := 0) dX5_isWhole_0 rfl rfl ?_
  refine sv_iload_n (i := 1) dX5_isWhole_1 rfl rfl ?_
  refine sv_iconst dX5_isWhole_2 ?_
  refine sv_vp0 (As := [_, _]) clX5_38 dX5_isWhole_3 ⟨_, rfl, rfl⟩ (by decide) rfl (Nat.le_of_ble_eq_true rfl) (by decide) (by decide) hsh.lt hsh.k (c_X5_of hsh (by first | exact hm | rfl | (simp only [sv_u_ne, sv_row_ne, sv_row_eq, ne_eq, Nat.add_left_cancel_iff, Nat.reduceEqDiff, not_false_eq_true, Nat.add_eq_left, reduceCtorEq, OfNat.ofNat_ne_zero, OfNat.one_ne_ofNat, OfNat.ofNat_ne_one, one_ne_zero, Nat.succ_ne_self]; first | exact hm | rfl) | (simp [sv_u_ne, sv_row_ne, sv_row_eq]; done) | (simp [sv_u_ne, sv_row_ne, sv_row_eq]; exact hm)) _ _ (by omega)) ?_
  refine sv_iconst dX5_isWhole_6 ?_
  refine sv_icmp_ne (tgt := 14) dX5_isWhole_7 (by decide) (by first | omega | exact hin _ _ | decide | (simp [sv_u, sv_row]; omega) | (simp [sv_u, sv_row]; exact hin _ _) | exact hin1 _ _ | (simp [sv_u, sv_row]; exact hin1 _ _)) (by first | omega | exact hin _ _ | decide | (simp [sv_u, sv_row]; omega) | (simp [sv_u, sv_row]; exact hin _ _) | exact hin1 _ _ | (simp [sv_u, sv_row]; exact hin1 _ _)) (fun h_7 => ?_) (fun h_7 => ?_)
  · refine sv_iconst dX5_isWhole_14 ?_
    refine sv_zreturn dX5_isWhole_15 rfl (by first | exact sv_b01 _ | decide) ?_
    exact ⟨by simp_all, rfl, rfl, rfl, rfl⟩
  · refine sv_iconst dX5_isWhole_10 ?_
    refine sv_goto (tgt := 15) dX5_isWhole_11 (by decide) ?_
    refine sv_zreturn dX5_isWhole_15 rfl (by first | exact sv_b01 _ | decide) ?_
    exact ⟨by simp_all, rfl, rfl, rfl, rfl⟩
