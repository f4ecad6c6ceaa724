set_option maxRecDepth 100000 in
set_option maxHeartbeats 4000000 in
theorem c_X0_weight {X : sv_X} {S : sv_S} {f : sv_F} {r : sv_R} {g : sv_G} {k : Nat} (hk : sv_K0 S r k) : sv_C X 0 MX0_weight 0 0 [sv_r k] S f r g (sv_qp (some (sv_i (if f k 3 = -1 then f k 4 else 2 + 2 * f k 4))) S f r g) := by
  refine sv_met (by decide) (by simp [lg_sl, sv_cv, va_rf, Value.category]) ?_
  refine sv_fr fun hin => ?_
  refine sv_aload_n (i := 0) dX0_weight_0 rfl rfl ?_
  refine sv_getI (kz := 3) flX0_21 dX0_weight_1 rfl rfl hk.lt hk.k ?_
  refine sv_iconst dX0_weight_4 ?_
  refine sv_icmp_ne (tgt := 15) dX0_weight_5 (by decide) (by first | omega | exact hin _ _ | decide | (simp [sv_u, sv_row]; omega) | (simp [sv_u, sv_row]; exact hin _ _) | exact hin1 _ _ | (simp [sv_u, sv_row]; exact hin1 _ _)) (by first | omega | exact hin _ _ | decide | (simp [sv_u, sv_row]; omega) | (simp [sv_u, sv_row]; exact hin _ _) | exact hin1 _ _ | (simp [sv_u, sv_row]; exact hin1 _ _)) (fun h_5 => ?_) (fun h_5 => ?_)
  · refine sv_iconst dX0_weight_15 ?_
    refine sv_iconst dX0_weight_16 ?_
    refine sv_aload_n (i := 0) dX0_weight_17 rfl rfl ?_
    refine sv_getI (kz := 4) flX0_24 dX0_weight_18 rfl rfl hk.lt hk.k ?_
    refine sv_imul dX0_weight_21 ?_
    refine sv_iadd dX0_weight_22 ?_
    refine sv_ireturn dX0_weight_23 rfl ?_
    exact ⟨by first | rw [if_pos (by assumption)] | rw [if_neg (by assumption)], rfl, rfl, rfl, rfl⟩
  · refine sv_aload_n (i := 0) dX0_weight_8 rfl rfl ?_
    refine sv_getI (kz := 4) flX0_24 dX0_weight_9 rfl rfl hk.lt hk.k ?_
    refine sv_goto (tgt := 23) dX0_weight_12 (by decide) ?_
    refine sv_ireturn dX0_weight_23 rfl ?_
    exact ⟨by first | rw [if_pos (by assumption)] | rw [if_neg (by assumption)], rfl, rfl, rfl, rfl⟩
set_option maxRecDepth 100000 in
set_option maxHeartbeats 4000000 in
theorem c_X1_placeOf {X : sv_X} {S : sv_S} {f : sv_F} {r : sv_R} {g : sv_G} {q : Nat} {kp : Int → Nat} {m : Int → Int} (hmo : sv_K1 S r q kp) (hmv : sv_V1 f q kp m) (hc : 0 ≤ m 580 ∧ m 580 ≤ 20) (n : Int) (hn : sv_in n) : sv_C X 0 MX1_placeOf 0 0 [sv_r q, sv_i n] S f r g (sv_qp (some (sv_i (sp_slot m n))) S f r g) := by
  refine sv_met (by decide) (by simp [lg_sl, sv_cv, va_rf, Value.category]) ?_
  refine sv_fr fun hin => ?_
  have lp : ∀ (k : Nat) (s : Int), m 580 - s < (k : Int) → (0 ≤ s ∧ s ≤ m 580) → (∀ j : Int, 0 ≤ j → j < s → m (29 * j) ≠ n) → sv_T X (sv_rm 0 0 0) MX1_placeOf (sv_Zm X 0 0 (sv_qp (some (sv_i (sp_slot m n))) S f r g)) 0 0 2 [some (sv_r q), some (sv_i n), some (sv_i s)] [] S (f) r g := by
    intro k
    induction k with
    | zero =>
      intro s hk h1 h2
      exact absurd hk (by omega)
    | succ k ih =>
      intro s hk h1 h2
      refine sv_iload_n (i := 2) dX1_placeOf_2 rfl rfl ?_
      refine sv_aload_n (i := 0) dX1_placeOf_3 rfl rfl ?_
      refine sv_getI (kz := 3) flX1_21 dX1_placeOf_4 rfl rfl hmo.lt hmo.k ?_
      rw [hmv.size]
      refine sv_icmp_ge (tgt := 31) dX1_placeOf_7 (by decide) (by omega) (by omega) (fun h_7 => ?_) (fun h_7 => ?_)
      · refine sv_iconst dX1_placeOf_31 ?_
        refine sv_ireturn dX1_placeOf_32 rfl ?_
        exact ⟨by rw [sp_slot_none (fun j a b => h2 j a (by omega))], rfl, rfl, rfl, rfl⟩
      · refine sv_aload_n (i := 0) dX1_placeOf_10 rfl rfl ?_
        refine sv_getR (kz := 6) flX1_33 dX1_placeOf_11 rfl rfl hmo.lt hmo.k hmo.r3 ?_
        refine sv_iload_n (i := 2) dX1_placeOf_14 rfl rfl ?_
        have hk := hmo.o (p := s) (by omega) (by omega)
        have hkv := hmv.o (s := s) (by omega) (by omega)
        refine sv_aald (t := 0) (n := 20) dX1_placeOf_15 hmo.l3 (by decide) hmo.s3 (by omega) (hmo.e (p := s) (by omega) (by omega)) ?_
        refine sv_getI (kz := 0) flX1_48 dX1_placeOf_16 rfl rfl hk.lt hk.k ?_
        rw [hkv.num]
        refine sv_iload_n (i := 1) dX1_placeOf_19 rfl rfl ?_
        refine sv_icmp_ne (tgt := 25) dX1_placeOf_20 (by decide) (hkv.num ▸ hin _ _) hn (fun h_20 => ?_) (fun h_20 => ?_)
        · refine sv_iinc dX1_placeOf_25 rfl (by decide) rfl ?_
          refine sv_goto (tgt := 2) dX1_placeOf_28 (by decide) ?_
          exact ih _ (by omega) (by omega) (fun j a b => by
            by_cases hj : j = s
            · subst hj; assumption
            · exact h2 j a (by omega))
        · refine sv_iload_n (i := 2) dX1_placeOf_23 rfl rfl ?_
          refine sv_ireturn dX1_placeOf_24 rfl ?_
          exact ⟨by rw [sp_slot_eq (s := s) (by omega) (by omega) (by assumption) h2], rfl, rfl, rfl, rfl⟩
  refine sv_iconst dX1_placeOf_0 ?_
  refine sv_istore_n (i := 2) dX1_placeOf_1 rfl (by decide) rfl ?_
  exact lp (m 580 + 1).toNat 0 (by omega) (by omega) (fun j a b => by omega)
set_option maxRecDepth 100000 in
set_option maxHeartbeats 4000000 in
theorem c_X1_baseOf {X : sv_X} {S : sv_S} {f : sv_F} {r : sv_R} {g : sv_G} {q : Nat} {kp : Int → Nat} {m : Int → Int} (hmo : sv_K1 S r q kp) (hmv : sv_V1 f q kp m) (hc : 0 ≤ m 580 ∧ m 580 ≤ 20) (n : Int) (hn : sv_in n) : sv_C X 1 MX1_baseOf 0 0 [sv_r q, sv_i n] S f r g (sv_qp (some (sv_i (sp_bs m n))) S f r g) := by
  refine sv_met (by decide) (by simp [lg_sl, sv_cv, va_rf, Value.category]) ?_
  refine sv_fr fun hin => ?_
  refine sv_aload_n (i := 0) dX1_baseOf_0 rfl rfl ?_
  refine sv_iload_n (i := 1) dX1_baseOf_1 rfl rfl ?_
  refine sv_vp0 (As := [_]) clX1_51 dX1_baseOf_2 ⟨_, rfl, rfl⟩ (by decide) rfl (Nat.le_of_ble_eq_true rfl) (by decide) (by decide) hmo.lt hmo.k (c_X1_placeOf hmo hmv hc _ (by omega)) ?_
  have hst := sp_slot_spec m n
  refine sv_istore_n (i := 2) dX1_baseOf_5 rfl (by decide) rfl ?_
  refine sv_iload_n (i := 2) dX1_baseOf_6 rfl rfl ?_
  refine sv_iconst dX1_baseOf_7 ?_
  refine sv_icmp_ne (tgt := 15) dX1_baseOf_8 (by decide) (by first | omega | exact hin _ _ | decide | (simp [sv_u, sv_row]; omega) | (simp [sv_u, sv_row]; exact hin _ _) | exact hin1 _ _ | (simp [sv_u, sv_row]; exact hin1 _ _)) (by first | omega | exact hin _ _ | decide | (simp [sv_u, sv_row]; omega) | (simp [sv_u, sv_row]; exact hin _ _) | exact hin1 _ _ | (simp [sv_u, sv_row]; exact hin1 _ _)) (fun h_8 => ?_) (fun h_8 => ?_)
  · refine sv_aload_n (i := 0) dX1_baseOf_15 rfl rfl ?_
    refine sv_getR (kz := 6) flX1_33 dX1_baseOf_16 rfl rfl hmo.lt hmo.k hmo.r3 ?_
    refine sv_iload_n (i := 2) dX1_baseOf_19 rfl rfl ?_
    obtain ⟨s0, s1, s2⟩ := sp_slot_in (by assumption : sp_slot m n ≠ -1)
    have hk := hmo.o (p := sp_slot m n) (by omega) (by omega)
    have hkv := hmv.o (s := sp_slot m n) (by omega) (by omega)
    refine sv_aald (t := 0) (n := 20) dX1_baseOf_20 hmo.l3 (by decide) hmo.s3 (by omega) (hmo.e (p := sp_slot m n) (by omega) (by omega)) ?_
    refine sv_getI (kz := 3) flX1_55 dX1_baseOf_21 rfl rfl hk.lt hk.k ?_
    try rw [hkv.base]
    refine sv_ireturn dX1_baseOf_24 rfl ?_
    exact ⟨by unfold sp_bs; first | rw [if_pos (by assumption)] | rw [if_neg (by assumption)], rfl, rfl, rfl, rfl⟩
  · refine sv_iconst dX1_baseOf_11 ?_
    refine sv_goto (tgt := 24) dX1_baseOf_12 (by decide) ?_
    try rw [hkv.base]
    refine sv_ireturn dX1_baseOf_24 rfl ?_
    exact ⟨by unfold sp_bs; first | rw [if_pos (by assumption)] | rw [if_neg (by assumption)], rfl, rfl, rfl, rfl⟩
set_option maxRecDepth 100000 in
set_option maxHeartbeats 4000000 in
theorem c_X1_followersOf {X : sv_X} {S : sv_S} {f : sv_F} {r : sv_R} {g : sv_G} {q : Nat} {kp : Int → Nat} {m : Int → Int} (hmo : sv_K1 S r q kp) (hmv : sv_V1 f q kp m) (hc : 0 ≤ m 580 ∧ m 580 ≤ 20) (n : Int) (hn : sv_in n) : sv_C X 0 MX1_followersOf 0 0 [sv_r q, sv_i n] S f r g (sv_qp (some (sv_i (sp_bo m n))) S f r g) := by
  refine sv_met (by decide) (by simp [lg_sl, sv_cv, va_rf, Value.category]) ?_
  refine sv_fr fun hin => ?_
  have lp : ∀ (k : Nat) (s : Nat), m 580 - (s : Int) < (k : Int) → ((s : Int) ≤ m 580) → sv_T X (sv_rm 0 0 0) MX1_followersOf (sv_Zm X 0 0 (sv_qp (some (sv_i (sp_bo m n))) S f r g)) 0 0 4 [some (sv_r q), some (sv_i n), some (sv_i (sp_cnt (fun s => if m (29 * s + 3) = n then 1 else 0) s)), some (sv_i (s : Nat))] [] S (f) r g := by
    intro k
    induction k with
    | zero =>
      intro s hk h1
      exact absurd hk (by omega)
    | succ k ih =>
      intro s hk h1
      refine sv_iload_n (i := 3) dX1_followersOf_4 rfl rfl ?_
      refine sv_aload_n (i := 0) dX1_followersOf_5 rfl rfl ?_
      refine sv_getI (kz := 3) flX1_21 dX1_followersOf_6 rfl rfl hmo.lt hmo.k ?_
      rw [hmv.size]
      refine sv_icmp_ge (tgt := 34) dX1_followersOf_9 (by decide) (by omega) (by omega) (fun h_9 => ?_) (fun h_9 => ?_)
      · refine sv_iload_n (i := 2) dX1_followersOf_34 rfl rfl ?_
        refine sv_ireturn dX1_followersOf_35 rfl ?_
        exact ⟨by unfold sp_bo; rw [show (m 580).toNat = s by omega], rfl, rfl, rfl, rfl⟩
      · refine sv_aload_n (i := 0) dX1_followersOf_12 rfl rfl ?_
        refine sv_getR (kz := 6) flX1_33 dX1_followersOf_13 rfl rfl hmo.lt hmo.k hmo.r3 ?_
        refine sv_iload_n (i := 3) dX1_followersOf_16 rfl rfl ?_
        have hk := hmo.o (p := (s : Int)) (by omega) (by omega)
        have hkv := hmv.o (s := (s : Int)) (by omega) (by omega)
        refine sv_aald (t := 0) (n := 20) dX1_followersOf_17 hmo.l3 (by decide) hmo.s3 (by omega) (hmo.e (p := (s : Int)) (by omega) (by omega)) ?_
        refine sv_getI (kz := 3) flX1_55 dX1_followersOf_18 rfl rfl hk.lt hk.k ?_
        rw [hkv.base]
        refine sv_iload_n (i := 1) dX1_followersOf_21 rfl rfl ?_
        refine sv_icmp_ne (tgt := 28) dX1_followersOf_22 (by decide) (hkv.base ▸ hin _ _) hn (fun h_22 => ?_) (fun h_22 => ?_)
        · refine sv_iinc dX1_followersOf_28 rfl (by decide) rfl ?_
          refine sv_goto (tgt := 4) dX1_followersOf_31 (by decide) ?_
          refine sv_cast (ih (s + 1) (by omega) (by omega)) rfl rfl rfl ?_ rfl rfl
          show [_, _, some (sv_i (sp_cnt _ s + (if m (29 * (s : Int) + 3) = n then 1 else 0))), _] = _
          first | rw [if_pos (by assumption)]; rfl | rw [if_neg (by assumption), Int.add_zero]; rfl
        · refine sv_iinc dX1_followersOf_25 rfl (by decide) rfl ?_
          refine sv_iinc dX1_followersOf_28 rfl (by decide) rfl ?_
          refine sv_goto (tgt := 4) dX1_followersOf_31 (by decide) ?_
          refine sv_cast (ih (s + 1) (by omega) (by omega)) rfl rfl rfl ?_ rfl rfl
          show [_, _, some (sv_i (sp_cnt _ s + (if m (29 * (s : Int) + 3) = n then 1 else 0))), _] = _
          first | rw [if_pos (by assumption)]; rfl | rw [if_neg (by assumption), Int.add_zero]; rfl
  refine sv_iconst dX1_followersOf_0 ?_
  refine sv_istore_n (i := 2) dX1_followersOf_1 rfl (by decide) rfl ?_
  refine sv_iconst dX1_followersOf_2 ?_
  refine sv_istore_n (i := 3) dX1_followersOf_3 rfl (by decide) rfl ?_
  exact lp (m 580 + 1).toNat 0 (by omega) (by omega)
set_option maxRecDepth 100000 in
set_option maxHeartbeats 4000000 in
theorem c_X1_wholeOnes {X : sv_X} {S : sv_S} {f : sv_F} {r : sv_R} {g : sv_G} {q : Nat} {kp : Int → Nat} {m : Int → Int} (hmo : sv_K1 S r q kp) (hmv : sv_V1 f q kp m) (hc : 0 ≤ m 580 ∧ m 580 ≤ 20) : sv_C X 1 MX1_wholeOnes 0 0 [sv_r q] S f r g (sv_qp (some (sv_i (sp_bo m (-1)))) S f r g) := by
  refine sv_met (by decide) (by simp [lg_sl, sv_cv, va_rf, Value.category]) ?_
  refine sv_fr fun hin => ?_
  refine sv_aload_n (i := 0) dX1_wholeOnes_0 rfl rfl ?_
  refine sv_iconst dX1_wholeOnes_1 ?_
  refine sv_vp0 (As := [_]) clX1_70 dX1_wholeOnes_2 ⟨_, rfl, rfl⟩ (by decide) rfl (Nat.le_of_ble_eq_true rfl) (by decide) (by decide) hmo.lt hmo.k (c_X1_followersOf hmo hmv hc _ (by omega)) ?_
  refine sv_ireturn dX1_wholeOnes_5 rfl ?_
  exact ⟨rfl, rfl, rfl, rfl, rfl⟩
set_option maxRecDepth 100000 in
set_option maxHeartbeats 4000000 in
theorem c_X1_weight {X : sv_X} {S : sv_S} {f : sv_F} {r : sv_R} {g : sv_G} {q : Nat} {kp : Int → Nat} {m : Int → Int} (hmo : sv_K1 S r q kp) (hmv : sv_V1 f q kp m) (hc : 0 ≤ m 580 ∧ m 580 ≤ 20) : sv_C X 1 MX1_weight 0 0 [sv_r q] S f r g (sv_qp (some (sv_i (sp_wes m))) S f r g) := by
  refine sv_met (by decide) (by simp [lg_sl, sv_cv, va_rf, Value.category]) ?_
  refine sv_fr fun hin => ?_
  have lp : ∀ (k : Nat) (s : Nat), m 580 - (s : Int) < (k : Int) → ((s : Int) ≤ m 580) → sv_T X (sv_rm 1 0 0) MX1_weight (sv_Zm X 0 0 (sv_qp (some (sv_i (sp_wes m))) S f r g)) 0 0 4 [some (sv_r q), some (sv_i (sp_cnt (sp_we m) s)), some (sv_i (s : Nat))] [] S (f) r g := by
    intro k
    induction k with
    | zero =>
      intro s hk h1
      exact absurd hk (by omega)
    | succ k ih =>
      intro s hk h1
      refine sv_iload_n (i := 2) dX1_weight_4 rfl rfl ?_
      refine sv_aload_n (i := 0) dX1_weight_5 rfl rfl ?_
      refine sv_getI (kz := 3) flX1_21 dX1_weight_6 rfl rfl hmo.lt hmo.k ?_
      rw [hmv.size]
      refine sv_icmp_ge (tgt := 30) dX1_weight_9 (by decide) (by omega) (by omega) (fun h_9 => ?_) (fun h_9 => ?_)
      · refine sv_iload_n (i := 1) dX1_weight_30 rfl rfl ?_
        refine sv_ireturn dX1_weight_31 rfl ?_
        exact ⟨by unfold sp_wes; rw [show (m 580).toNat = s by omega], rfl, rfl, rfl, rfl⟩
      · refine sv_iload_n (i := 1) dX1_weight_12 rfl rfl ?_
        refine sv_aload_n (i := 0) dX1_weight_13 rfl rfl ?_
        refine sv_getR (kz := 6) flX1_33 dX1_weight_14 rfl rfl hmo.lt hmo.k hmo.r3 ?_
        refine sv_iload_n (i := 2) dX1_weight_17 rfl rfl ?_
        have hk := hmo.o (p := (s : Int)) (by omega) (by omega)
        have hkv := hmv.o (s := (s : Int)) (by omega) (by omega)
        refine sv_aald (t := 0) (n := 20) dX1_weight_18 hmo.l3 (by decide) hmo.s3 (by omega) (hmo.e (p := (s : Int)) (by omega) (by omega)) ?_
        refine sv_vp0 (As := []) clX1_73 dX1_weight_19 ⟨_, rfl, rfl⟩ (by decide) rfl (Nat.le_of_ble_eq_true rfl) (by decide) (by decide) hk.lt hk.k (c_X0_weight hk) ?_
        rw [hkv.base, hkv.size]
        refine sv_iadd dX1_weight_22 ?_
        refine sv_istore_n (i := 1) dX1_weight_23 rfl (by decide) rfl ?_
        refine sv_iinc dX1_weight_24 rfl (by decide) rfl ?_
        refine sv_goto (tgt := 4) dX1_weight_27 (by decide) ?_
        exact sv_cast (ih (s + 1) (by omega) (by omega)) rfl rfl rfl rfl rfl rfl
  refine sv_iconst dX1_weight_0 ?_
  refine sv_istore_n (i := 1) dX1_weight_1 rfl (by decide) rfl ?_
  refine sv_iconst dX1_weight_2 ?_
  refine sv_istore_n (i := 2) dX1_weight_3 rfl (by decide) rfl ?_
  exact lp (m 580 + 1).toNat 0 (by omega) (by omega)
