set_option maxRecDepth 100000 in
set_option maxHeartbeats 4000000 in
theorem c_X4_reasonOf {X : sv_X} {S : sv_S} {f : sv_F} {r : sv_R} {g : sv_G} {V q d fo rs fi se pa sc : Nat} {kp fd : Int → Nat} {m : Int → Int} (hve : sv_K4 S r V q d fi se pa sc) (hmo : sv_K1 S r q kp) (hmv : sv_V1 f q kp m) (hre : sv_K2 S r d fo rs fd) (hw : sp_wt m) (hv2 : sv_V2 f rs fd m (m 580)) (n : Int) (hn : sv_in n) : sv_C X 1 MX4_reasonOf 0 0 [sv_r V, sv_i n] S f r g (sv_qp (some (sv_i (sp_R m n))) S f r g) := by
  refine sv_met (by decide) (by simp [lg_sl, sv_cv, va_rf, Value.category]) ?_
  refine sv_fr fun hin => ?_
  have hcc := hw.c
  refine sv_aload_n (i := 0) dX4_reasonOf_0 rfl rfl ?_
  refine sv_getR (kz := 0) flX4_10 dX4_reasonOf_1 rfl rfl hve.lt hve.k hve.r0 ?_
  refine sv_iload_n (i := 1) dX4_reasonOf_4 rfl rfl ?_
  refine sv_vp0 (As := [_]) clX4_124 dX4_reasonOf_5 ⟨_, rfl, rfl⟩ (by decide) rfl (Nat.le_of_ble_eq_true rfl) (by decide) (by decide) hmo.lt hmo.k (c_X1_placeOf hmo hmv hcc _ hn) ?_
  have hst := sp_slot_spec m n
  refine sv_istore_n (i := 2) dX4_reasonOf_8 rfl (by decide) rfl ?_
  refine sv_iload_n (i := 2) dX4_reasonOf_9 rfl rfl ?_
  refine sv_iconst dX4_reasonOf_10 ?_
  refine sv_icmp_ne (tgt := 18) dX4_reasonOf_11 (by decide) (by first | omega | exact hin _ _ | decide | (simp [sv_u, sv_row]; omega) | (simp [sv_u, sv_row]; exact hin _ _) | exact hin1 _ _ | (simp [sv_u, sv_row]; exact hin1 _ _)) (by first | omega | exact hin _ _ | decide | (simp [sv_u, sv_row]; omega) | (simp [sv_u, sv_row]; exact hin _ _) | exact hin1 _ _ | (simp [sv_u, sv_row]; exact hin1 _ _)) (fun h_11 => ?_) (fun h_11 => ?_)
  · have hsn : sp_slot m n ≠ -1 := by assumption
    obtain ⟨s0, s1, s2⟩ := sp_slot_in hsn
    obtain ⟨v1, v2⟩ := hv2 _ s0 s1
    rw [s2] at v1
    refine sv_aload_n (i := 0) dX4_reasonOf_18 rfl rfl ?_
    refine sv_getR (kz := 4) flX4_34 dX4_reasonOf_19 rfl rfl hve.lt hve.k hve.r4 ?_
    refine sv_getR (kz := 1) flX4_127 dX4_reasonOf_22 rfl rfl hre.lt hre.k hre.r2 ?_
    refine sv_iload_n (i := 2) dX4_reasonOf_25 rfl rfl ?_
    refine sv_iald dX4_reasonOf_26 hre.l2 hre.s2 (by omega) ?_
    try rw [v1]
    refine sv_ireturn dX4_reasonOf_27 rfl ?_
    first | exact ⟨by rw [sp_R_lost hw (by assumption)], rfl, rfl, rfl, rfl⟩ | exact ⟨rfl, rfl, rfl, rfl, rfl⟩
  · refine sv_iconst dX4_reasonOf_14 ?_
    refine sv_goto (tgt := 27) dX4_reasonOf_15 (by decide) ?_
    try rw [v1]
    refine sv_ireturn dX4_reasonOf_27 rfl ?_
    first | exact ⟨by rw [sp_R_lost hw (by assumption)], rfl, rfl, rfl, rfl⟩ | exact ⟨rfl, rfl, rfl, rfl, rfl⟩
set_option maxRecDepth 100000 in
set_option maxHeartbeats 4000000 in
theorem c_X4_unreadable {X : sv_X} {S : sv_S} {f : sv_F} {r : sv_R} {g : sv_G} {V q d fo rs fi se pa sc : Nat} {kp fd : Int → Nat} {m : Int → Int} (hve : sv_K4 S r V q d fi se pa sc) (hmo : sv_K1 S r q kp) (hmv : sv_V1 f q kp m) (hre : sv_K2 S r d fo rs fd) (hw : sp_wt m) (hv2 : sv_V2 f rs fd m (m 580))  : sv_C X 0 MX4_unreadable 0 0 [sv_r V] S f r g (sv_qp (some (sv_i (sp_unr m))) S f r g) := by
  refine sv_met (by decide) (by simp [lg_sl, sv_cv, va_rf, Value.category]) ?_
  refine sv_fr fun hin => ?_
  have hcc := hw.c
  have lp : ∀ (kk : Nat) (s : Nat), m 580 - (s : Int) < (kk : Int) → ((s : Int) ≤ m 580) → sv_T X (sv_rm 0 0 0) MX4_unreadable (sv_Zm X 0 0 (sv_qp (some (sv_i (sp_unr m))) S f r g)) 0 0 4 [some (sv_r V), some (sv_i (sp_cnt (fun s => if sp_R m (m (29 * s)) = -1 then 0 else 1) s)), some (sv_i (s : Nat))] [] S (f) r g := by
    intro kk
    induction kk with
    | zero =>
      intro s hkk h1
      exact absurd hkk (by omega)
    | succ kk ih =>
      intro s hkk h1
      refine sv_iload_n (i := 2) dX4_unreadable_4 rfl rfl ?_
      refine sv_aload_n (i := 0) dX4_unreadable_5 rfl rfl ?_
      refine sv_getR (kz := 0) flX4_10 dX4_unreadable_6 rfl rfl hve.lt hve.k hve.r0 ?_
      refine sv_getI (kz := 3) flX4_79 dX4_unreadable_9 rfl rfl hmo.lt hmo.k ?_
      rw [hmv.size]
      refine sv_icmp_ge (tgt := 37) dX4_unreadable_12 (by decide) (by omega) (by omega) (fun h_12 => ?_) (fun h_12 => ?_)
      · refine sv_iload_n (i := 1) dX4_unreadable_37 rfl rfl ?_
        refine sv_ireturn dX4_unreadable_38 rfl ?_
        exact ⟨by unfold sp_unr; rw [show (m 580).toNat = s by omega], rfl, rfl, rfl, rfl⟩
      · obtain ⟨v1, v2⟩ := hv2 (s : Int) (by omega) (by omega)
        have hRi := sp_R_in hw (n := m (29 * (s : Int)))
        refine sv_aload_n (i := 0) dX4_unreadable_15 rfl rfl ?_
        refine sv_getR (kz := 4) flX4_34 dX4_unreadable_16 rfl rfl hve.lt hve.k hve.r4 ?_
        refine sv_getR (kz := 1) flX4_127 dX4_unreadable_19 rfl rfl hre.lt hre.k hre.r2 ?_
        refine sv_iload_n (i := 2) dX4_unreadable_22 rfl rfl ?_
        refine sv_iald dX4_unreadable_23 hre.l2 hre.s2 (by omega) ?_
        rw [v1]
        refine sv_iconst dX4_unreadable_24 ?_
        refine sv_icmp_eq (tgt := 31) dX4_unreadable_25 (by decide) (by omega) (by decide) (fun h_25 => ?_) (fun h_25 => ?_)
        · refine sv_iinc dX4_unreadable_31 rfl (by decide) rfl ?_
          refine sv_goto (tgt := 4) dX4_unreadable_34 (by decide) ?_
          refine sv_cast (ih (s + 1) (by omega) (by omega)) rfl rfl rfl ?_ rfl rfl
          show [_, some (sv_i (sp_cnt _ s + (if sp_R m (m (29 * (s : Int))) = -1 then 0 else 1))), _] = _
          first | rw [if_pos (by assumption), Int.add_zero]; rfl | rw [if_neg (by assumption)]; rfl
        · refine sv_iinc dX4_unreadable_28 rfl (by decide) rfl ?_
          refine sv_iinc dX4_unreadable_31 rfl (by decide) rfl ?_
          refine sv_goto (tgt := 4) dX4_unreadable_34 (by decide) ?_
          refine sv_cast (ih (s + 1) (by omega) (by omega)) rfl rfl rfl ?_ rfl rfl
          show [_, some (sv_i (sp_cnt _ s + (if sp_R m (m (29 * (s : Int))) = -1 then 0 else 1))), _] = _
          first | rw [if_pos (by assumption), Int.add_zero]; rfl | rw [if_neg (by assumption)]; rfl
  refine sv_iconst dX4_unreadable_0 ?_
  refine sv_istore_n (i := 1) dX4_unreadable_1 rfl (by decide) rfl ?_
  refine sv_iconst dX4_unreadable_2 ?_
  refine sv_istore_n (i := 2) dX4_unreadable_3 rfl (by decide) rfl ?_
  exact lp (m 580 + 1).toNat 0 (by omega) (by omega)
set_option maxRecDepth 100000 in
set_option maxHeartbeats 4000000 in
theorem c_X4_canBeBase {X : sv_X} {S : sv_S} {f : sv_F} {r : sv_R} {g : sv_G} {V q d fo rs fi se pa sc : Nat} {kp fd : Int → Nat} {m : Int → Int} (hve : sv_K4 S r V q d fi se pa sc) (hmo : sv_K1 S r q kp) (hmv : sv_V1 f q kp m) (hre : sv_K2 S r d fo rs fd) (hw : sp_wt m) (s F R : Int) (hs : 0 ≤ s ∧ s < m 580) (hF : sv_in F) (hR : f rs s = R) : sv_C X 3 MX4_canBeBase 0 0 [sv_r V, sv_i s, sv_i F] S f r g (sv_qp (some (sv_i (if R = -1 ∧ m (29 * s + 1) ≤ F ∧ sp_lk m (m (29 * s)) < m 596 then 1 else 0))) S f r g) := by
  refine sv_met (by decide) (by simp [lg_sl, sv_cv, va_rf, Value.category]) ?_
  refine sv_fr fun hin => ?_
  have hcc := hw.c
  have hcm := hw.cm
  have hnm := hw.num hs.1 hs.2
  have hfr := hw.frm hs.1 hs.2
  have hk := hmo.o (p := s) (by omega) (by omega)
  have hkv := hmv.o (s := s) (by omega) (by omega)
  refine sv_aload_n (i := 0) dX4_canBeBase_0 rfl rfl ?_
  refine sv_getR (kz := 0) flX4_10 dX4_canBeBase_1 rfl rfl hve.lt hve.k hve.r0 ?_
  refine sv_getR (kz := 6) flX4_89 dX4_canBeBase_4 rfl rfl hmo.lt hmo.k hmo.r3 ?_
  refine sv_iload_n (i := 1) dX4_canBeBase_7 rfl rfl ?_
  refine sv_aald (t := 0) (n := 20) dX4_canBeBase_8 hmo.l3 (by decide) hmo.s3 (by omega) (hmo.e (p := s) (by omega) (by omega)) ?_
  refine sv_astore_n (i := 3) dX4_canBeBase_9 rfl (by decide) rfl ?_
  refine sv_aload_n (i := 0) dX4_canBeBase_10 rfl rfl ?_
  refine sv_getR (kz := 4) flX4_34 dX4_canBeBase_11 rfl rfl hve.lt hve.k hve.r4 ?_
  refine sv_getR (kz := 1) flX4_127 dX4_canBeBase_14 rfl rfl hre.lt hre.k hre.r2 ?_
  refine sv_iload_n (i := 1) dX4_canBeBase_17 rfl rfl ?_
  refine sv_iald dX4_canBeBase_18 hre.l2 hre.s2 (by omega) ?_
  rw [hR]
  refine sv_iconst dX4_canBeBase_19 ?_
  refine sv_icmp_ne (tgt := 58) dX4_canBeBase_20 (by decide) (hR ▸ hin _ _) (by first | omega | exact hin _ _ | decide | (simp [sv_u, sv_row]; omega) | (simp [sv_u, sv_row]; exact hin _ _) | exact hin1 _ _ | (simp [sv_u, sv_row]; exact hin1 _ _)) (fun h_20 => ?_) (fun h_20 => ?_)
  · refine sv_iconst dX4_canBeBase_58 ?_
    refine sv_zreturn dX4_canBeBase_59 rfl (by first | exact sv_b01 _ | decide) ?_
    exact ⟨by first | rw [if_pos ⟨by assumption, by omega, by omega⟩] | rw [if_neg (by intro hh; obtain ⟨y1, y2, y3⟩ := hh; omega)], rfl, rfl, rfl, rfl⟩
  · refine sv_aload_n (i := 3) dX4_canBeBase_23 rfl rfl ?_
    refine sv_getI (kz := 1) flX4_98 dX4_canBeBase_24 rfl rfl hk.lt hk.k ?_
    rw [hkv.form]
    refine sv_iload_n (i := 2) dX4_canBeBase_27 rfl rfl ?_
    refine sv_icmp_gt (tgt := 58) dX4_canBeBase_28 (by decide) (by omega) hF (fun h_28 => ?_) (fun h_28 => ?_)
    · refine sv_iconst dX4_canBeBase_58 ?_
      refine sv_zreturn dX4_canBeBase_59 rfl (by first | exact sv_b01 _ | decide) ?_
      exact ⟨by first | rw [if_pos ⟨by assumption, by omega, by omega⟩] | rw [if_neg (by intro hh; obtain ⟨y1, y2, y3⟩ := hh; omega)], rfl, rfl, rfl, rfl⟩
    · refine sv_aload_n (i := 0) dX4_canBeBase_31 rfl rfl ?_
      refine sv_getR (kz := 0) flX4_10 dX4_canBeBase_32 rfl rfl hve.lt hve.k hve.r0 ?_
      refine sv_aload_n (i := 3) dX4_canBeBase_35 rfl rfl ?_
      refine sv_getI (kz := 0) flX4_93 dX4_canBeBase_36 rfl rfl hk.lt hk.k ?_
      rw [hkv.num]
      refine sv_vp0 (As := [_]) clX4_195 dX4_canBeBase_39 ⟨_, rfl, rfl⟩ (by decide) rfl (Nat.le_of_ble_eq_true rfl) (by decide) (by decide) hmo.lt hmo.k (c_X1_linksOf hmo hmv hw _ (by omega)) ?_
      refine sv_aload_n (i := 0) dX4_canBeBase_42 rfl rfl ?_
      refine sv_getR (kz := 0) flX4_10 dX4_canBeBase_43 rfl rfl hve.lt hve.k hve.r0 ?_
      refine sv_getR (kz := 5) flX4_130 dX4_canBeBase_46 rfl rfl hmo.lt hmo.k hmo.r2 ?_
      refine sv_iconst dX4_canBeBase_49 ?_
      refine sv_iald dX4_canBeBase_50 hmo.l2 hmo.s2 (by omega) ?_
      rw [hmv.lim]
      refine sv_icmp_ge (tgt := 58) dX4_canBeBase_51 (by decide) (by have := sp_lk_bd hw hnm.1; omega) (hmv.lim ▸ hin _ _) (fun h_51 => ?_) (fun h_51 => ?_)
      · refine sv_iconst dX4_canBeBase_58 ?_
        refine sv_zreturn dX4_canBeBase_59 rfl (by first | exact sv_b01 _ | decide) ?_
        exact ⟨by first | rw [if_pos ⟨by assumption, by omega, by omega⟩] | rw [if_neg (by intro hh; obtain ⟨y1, y2, y3⟩ := hh; omega)], rfl, rfl, rfl, rfl⟩
      · refine sv_iconst dX4_canBeBase_54 ?_
        refine sv_goto (tgt := 59) dX4_canBeBase_55 (by decide) ?_
        refine sv_zreturn dX4_canBeBase_59 rfl (by first | exact sv_b01 _ | decide) ?_
        exact ⟨by first | rw [if_pos ⟨by assumption, by omega, by omega⟩] | rw [if_neg (by intro hh; obtain ⟨y1, y2, y3⟩ := hh; omega)], rfl, rfl, rfl, rfl⟩
set_option maxRecDepth 100000 in
set_option maxHeartbeats 4000000 in
theorem c_X4_nearestToGame {X : sv_X} {S : sv_S} {f : sv_F} {r : sv_R} {g : sv_G} {V q d fo rs fi se pa sc : Nat} {kp fd : Int → Nat} {m : Int → Int} (hve : sv_K4 S r V q d fi se pa sc) (hmo : sv_K1 S r q kp) (hmv : sv_V1 f q kp m) (hre : sv_K2 S r d fo rs fd) (hw : sp_wt m) (hv2 : sv_V2 f rs fd m (m 580)) (hfs : ∀ p, 0 ≤ p → p < 20 → fi ≠ fd p) (hfr0 : fi ≠ rs) (hfq : fi < q ∨ q + 64 ≤ fi) (hg : sp_wg m) : sv_C X 4 MX4_nearestToGame 0 0 [sv_r V] S f r g (sv_qi (fun a f' => a = sp_nst m ∧ ∀ x, x ≠ fi → f' x = f x) S r g) := by
  refine sv_met (by decide) (by simp [lg_sl, sv_cv, va_rf, Value.category]) ?_
  refine sv_fr fun hin => ?_
  have hcc := hw.c
  have hgf := hg.f
  have lp : ∀ (kk : Nat) (i : Nat) (f1 : sv_F), m 580 - (i : Int) < (kk : Int) → ((i : Int) ≤ m 580) → (∀ x, x ≠ fi → f1 x = f x) → sv_T X (sv_rm 4 0 0) MX4_nearestToGame (sv_Zm X 0 0 (sv_qi (fun a f' => a = sp_nst m ∧ ∀ x, x ≠ fi → f' x = f x) S r g)) 0 0 7 [some (sv_r V), some (sv_i (if (sp_am (fun s => m (29 * s + 1) ≤ m 582 ∧ sp_R m (m (29 * s)) = -1) (fun s => sp_gd m (m (29 * s))) 13 i).1 = -1 then -1 else m (29 * (sp_am (fun s => m (29 * s + 1) ≤ m 582 ∧ sp_R m (m (29 * s)) = -1) (fun s => sp_gd m (m (29 * s))) 13 i).1))), some (sv_i ((sp_am (fun s => m (29 * s + 1) ≤ m 582 ∧ sp_R m (m (29 * s)) = -1) (fun s => sp_gd m (m (29 * s))) 13 i) : Int × Int).2), some (sv_i (i : Nat)), none, none] [] S (f1) r g := by
    intro kk
    induction kk with
    | zero =>
      intro i f1 hkk h1 h3
      exact absurd hkk (by omega)
    | succ kk ih =>
      intro i f1 hkk h1 h3
      have hv1 : sv_V1 f1 q kp m := sv_V1.congr hmo hcc hmv fun x x0 x1 => h3 x (by omega)
      refine sv_iload_n (i := 3) dX4_nearestToGame_7 rfl rfl ?_
      refine sv_aload_n (i := 0) dX4_nearestToGame_8 rfl rfl ?_
      refine sv_getR (kz := 0) flX4_10 dX4_nearestToGame_9 rfl rfl hve.lt hve.k hve.r0 ?_
      refine sv_getI (kz := 3) flX4_79 dX4_nearestToGame_12 rfl rfl hmo.lt hmo.k ?_
      rw [hv1.size]
      refine sv_icmp_ge (tgt := 99) dX4_nearestToGame_15 (by decide) (by omega) (by omega) (fun h_15 => ?_) (fun h_15 => ?_)
      · refine sv_iload_n (i := 1) dX4_nearestToGame_99 rfl rfl ?_
        refine sv_ireturn dX4_nearestToGame_100 rfl ?_
        exact ⟨_, rfl, rfl, rfl, rfl, by unfold sp_nst sp_nb; rw [show (m 580).toNat = i by omega], h3⟩
      · obtain ⟨v1, v2⟩ := hv2 (i : Int) (by omega) (by omega)
        have hRi := sp_R_in hw (n := m (29 * (i : Int)))
        have hfi := hw.frm (s := (i : Int)) (by omega) (by omega)
        have hnm := hw.num (s := (i : Int)) (by omega) (by omega)
        have hk := hmo.o (p := (i : Int)) (by omega) (by omega)
        have hkb := hmo.b (p := (i : Int)) (by omega) (by omega)
        have hkv := hv1.o (s := (i : Int)) (by omega) (by omega)
        have hsl := hw.slot (s := (i : Int)) (by omega) (by omega)
        have hgd := sp_gd_in hg.f (m (29 * (i : Int)))
        refine sv_aload_n (i := 0) dX4_nearestToGame_18 rfl rfl ?_
        refine sv_getR (kz := 0) flX4_10 dX4_nearestToGame_19 rfl rfl hve.lt hve.k hve.r0 ?_
        refine sv_getR (kz := 6) flX4_89 dX4_nearestToGame_22 rfl rfl hmo.lt hmo.k hmo.r3 ?_
        refine sv_iload_n (i := 3) dX4_nearestToGame_25 rfl rfl ?_
        refine sv_aald (t := 0) (n := 20) dX4_nearestToGame_26 hmo.l3 (by decide) hmo.s3 (by omega) (hmo.e (p := (i : Int)) (by omega) (by omega)) ?_
        refine sv_astore dX4_nearestToGame_27 (by decide) rfl ?_
        refine sv_aload_n (i := 0) dX4_nearestToGame_29 rfl rfl ?_
        refine sv_getR (kz := 4) flX4_34 dX4_nearestToGame_30 rfl rfl hve.lt hve.k hve.r4 ?_
        refine sv_getR (kz := 1) flX4_127 dX4_nearestToGame_33 rfl rfl hre.lt hre.k hre.r2 ?_
        refine sv_iload_n (i := 3) dX4_nearestToGame_36 rfl rfl ?_
        refine sv_iald dX4_nearestToGame_37 hre.l2 hre.s2 (by omega) ?_
        rw [h3 rs (Ne.symm hfr0), v1]
        refine sv_iconst dX4_nearestToGame_38 ?_
        refine sv_icmp_ne (tgt := 93) dX4_nearestToGame_39 (by decide) (by omega) (by first | omega | exact hin _ _ | decide | (simp [sv_u, sv_row]; omega) | (simp [sv_u, sv_row]; exact hin _ _) | exact hin1 _ _ | (simp [sv_u, sv_row]; exact hin1 _ _)) (fun h_39 => ?_) (fun h_39 => ?_)
        · refine sv_iinc dX4_nearestToGame_93 rfl (by decide) rfl ?_
          refine sv_goto (tgt := 7) dX4_nearestToGame_96 (by decide) ?_
          have hst : sp_am (fun s => m (29 * s + 1) ≤ m 582 ∧ sp_R m (m (29 * s)) = -1) (fun s => sp_gd m (m (29 * s))) 13 (i + 1) = if (m (29 * (i : Int) + 1) ≤ m 582 ∧ sp_R m (m (29 * (i : Int))) = -1) ∧ sp_gd m (m (29 * (i : Int))) < ((sp_am (fun s => m (29 * s + 1) ≤ m 582 ∧ sp_R m (m (29 * s)) = -1) (fun s => sp_gd m (m (29 * s))) 13 i) : Int × Int).2 then ((i : Int), sp_gd m (m (29 * (i : Int)))) else (sp_am (fun s => m (29 * s + 1) ≤ m 582 ∧ sp_R m (m (29 * s)) = -1) (fun s => sp_gd m (m (29 * s))) 13 i) := rfl
          first
          | (rw [if_pos ⟨⟨by omega, by assumption⟩, by omega⟩] at hst
             refine sv_wk (ih (i + 1) f2 (by omega) (by omega) h3b) ?_ rfl
             rw [hst, if_neg (by show (i : Int) ≠ -1; omega)]; simp [sv_sub, sv_ent, sv_lng])
          | (rw [if_neg (by intro hh; obtain ⟨⟨y1, y2⟩, y3⟩ := hh; omega)] at hst
             refine sv_wk (ih (i + 1) f2 (by omega) (by omega) h3b) ?_ rfl
             rw [hst]; simp [sv_sub, sv_ent, sv_lng])
          | (rw [if_neg (by intro hh; obtain ⟨⟨y1, y2⟩, y3⟩ := hh; omega)] at hst
             refine sv_wk (ih (i + 1) f1 (by omega) (by omega) h3) ?_ rfl
             rw [hst]; simp [sv_sub, sv_ent, sv_lng])
        · refine sv_aload dX4_nearestToGame_42 rfl ?_
          refine sv_getI (kz := 1) flX4_98 dX4_nearestToGame_44 rfl rfl hk.lt hk.k ?_
          rw [hkv.form]
          refine sv_aload_n (i := 0) dX4_nearestToGame_47 rfl rfl ?_
          refine sv_getR (kz := 0) flX4_10 dX4_nearestToGame_48 rfl rfl hve.lt hve.k hve.r0 ?_
          refine sv_getI (kz := 0) flX4_54 dX4_nearestToGame_51 rfl rfl hmo.lt hmo.k ?_
          rw [hv1.form]
          refine sv_icmp_gt (tgt := 93) dX4_nearestToGame_54 (by decide) (by omega) (by have := hg.f; omega) (fun h_54 => ?_) (fun h_54 => ?_)
          · refine sv_iinc dX4_nearestToGame_93 rfl (by decide) rfl ?_
            refine sv_goto (tgt := 7) dX4_nearestToGame_96 (by decide) ?_
            have hst : sp_am (fun s => m (29 * s + 1) ≤ m 582 ∧ sp_R m (m (29 * s)) = -1) (fun s => sp_gd m (m (29 * s))) 13 (i + 1) = if (m (29 * (i : Int) + 1) ≤ m 582 ∧ sp_R m (m (29 * (i : Int))) = -1) ∧ sp_gd m (m (29 * (i : Int))) < ((sp_am (fun s => m (29 * s + 1) ≤ m 582 ∧ sp_R m (m (29 * s)) = -1) (fun s => sp_gd m (m (29 * s))) 13 i) : Int × Int).2 then ((i : Int), sp_gd m (m (29 * (i : Int)))) else (sp_am (fun s => m (29 * s + 1) ≤ m 582 ∧ sp_R m (m (29 * s)) = -1) (fun s => sp_gd m (m (29 * s))) 13 i) := rfl
            first
            | (rw [if_pos ⟨⟨by omega, by assumption⟩, by omega⟩] at hst
               refine sv_wk (ih (i + 1) f2 (by omega) (by omega) h3b) ?_ rfl
               rw [hst, if_neg (by show (i : Int) ≠ -1; omega)]; simp [sv_sub, sv_ent, sv_lng])
            | (rw [if_neg (by intro hh; obtain ⟨⟨y1, y2⟩, y3⟩ := hh; omega)] at hst
               refine sv_wk (ih (i + 1) f2 (by omega) (by omega) h3b) ?_ rfl
               rw [hst]; simp [sv_sub, sv_ent, sv_lng])
            | (rw [if_neg (by intro hh; obtain ⟨⟨y1, y2⟩, y3⟩ := hh; omega)] at hst
               refine sv_wk (ih (i + 1) f1 (by omega) (by omega) h3) ?_ rfl
               rw [hst]; simp [sv_sub, sv_ent, sv_lng])
          · refine sv_aload_n (i := 0) dX4_nearestToGame_57 rfl rfl ?_
            refine sv_iload_n (i := 3) dX4_nearestToGame_58 rfl rfl ?_
            refine sv_aload_n (i := 0) dX4_nearestToGame_59 rfl rfl ?_
            refine sv_getR (kz := 0) flX4_10 dX4_nearestToGame_60 rfl rfl hve.lt hve.k hve.r0 ?_
            refine sv_getI (kz := 0) flX4_54 dX4_nearestToGame_63 rfl rfl hmo.lt hmo.k ?_
            rw [hv1.form]
            refine sv_aload_n (i := 0) dX4_nearestToGame_66 rfl rfl ?_
            refine sv_getR (kz := 0) flX4_10 dX4_nearestToGame_67 rfl rfl hve.lt hve.k hve.r0 ?_
            refine sv_getR (kz := 4) flX4_51 dX4_nearestToGame_70 rfl rfl hmo.lt hmo.k hmo.r1 ?_
            refine sv_vi0 (As := [_, _, _]) clX4_170 dX4_nearestToGame_73 ⟨_, rfl, rfl⟩ (by decide) rfl (Nat.le_of_ble_eq_true rfl) (by decide) (by decide) hve.lt hve.k (c_X4_distance hve hmo hv1 hre hw ⟨hmo.l1, hmo.s1⟩ (i : Int) (m 582) (by omega) (by omega) (by assumption) (fun j j0 j1 => by rw [h3 _ (Ne.symm (hfs (i : Int) (by omega) (by omega)))]; exact v2 (by assumption) j j0 j1) (hfs (i : Int) (by omega) (by omega)) hfq (by omega)) (fun a f2 hf2 => ?_)
            obtain ⟨ha, hf2⟩ := hf2
            have haa : a = sp_gd m (m (29 * (i : Int))) := by
              rw [ha]
              unfold sp_gd
              rw [hsl]
              exact sp_dn_congr (fun _ _ _ => rfl) (fun j j0 j1 => hv1.val j0 j1)
            clear ha
            subst haa
            have h3b : ∀ x, x ≠ fi → f2 x = f x := fun x hx => (hf2 x hx).trans (h3 x hx)
            have hAs : ((sp_am (fun s => m (29 * s + 1) ≤ m 582 ∧ sp_R m (m (29 * s)) = -1) (fun s => sp_gd m (m (29 * s))) 13 i) : Int × Int).2 ≤ 13 := by rcases sp_am_spec (p := (fun s => m (29 * s + 1) ≤ m 582 ∧ sp_R m (m (29 * s)) = -1)) (d := (fun s => sp_gd m (m (29 * s)))) (b := 13) i with ⟨-, y, -⟩ | ⟨-, -, -, -, y⟩ <;> omega
            have hAg : 0 ≤ ((sp_am (fun s => m (29 * s + 1) ≤ m 582 ∧ sp_R m (m (29 * s)) = -1) (fun s => sp_gd m (m (29 * s))) 13 i) : Int × Int).2 := by
              rcases sp_am_spec (p := (fun s => m (29 * s + 1) ≤ m 582 ∧ sp_R m (m (29 * s)) = -1)) (d := (fun s => sp_gd m (m (29 * s)))) (b := 13) i with ⟨-, y, -⟩ | ⟨-, -, -, y, -⟩
              · omega
              · rw [y]; have := sp_gd_in hg.f (m (29 * ((sp_am (fun s => m (29 * s + 1) ≤ m 582 ∧ sp_R m (m (29 * s)) = -1) (fun s => sp_gd m (m (29 * s))) 13 i) : Int × Int).1)); omega
            refine sv_istore dX4_nearestToGame_76 (by decide) rfl ?_
            refine sv_iload dX4_nearestToGame_78 rfl ?_
            refine sv_iload_n (i := 2) dX4_nearestToGame_80 rfl rfl ?_
            refine sv_icmp_ge (tgt := 93) dX4_nearestToGame_81 (by decide) (by omega) (by omega) (fun h_81 => ?_) (fun h_81 => ?_)
            · refine sv_iinc dX4_nearestToGame_93 rfl (by decide) rfl ?_
              refine sv_goto (tgt := 7) dX4_nearestToGame_96 (by decide) ?_
              have hst : sp_am (fun s => m (29 * s + 1) ≤ m 582 ∧ sp_R m (m (29 * s)) = -1) (fun s => sp_gd m (m (29 * s))) 13 (i + 1) = if (m (29 * (i : Int) + 1) ≤ m 582 ∧ sp_R m (m (29 * (i : Int))) = -1) ∧ sp_gd m (m (29 * (i : Int))) < ((sp_am (fun s => m (29 * s + 1) ≤ m 582 ∧ sp_R m (m (29 * s)) = -1) (fun s => sp_gd m (m (29 * s))) 13 i) : Int × Int).2 then ((i : Int), sp_gd m (m (29 * (i : Int)))) else (sp_am (fun s => m (29 * s + 1) ≤ m 582 ∧ sp_R m (m (29 * s)) = -1) (fun s => sp_gd m (m (29 * s))) 13 i) := rfl
              first
              | (rw [if_pos ⟨⟨by omega, by assumption⟩, by omega⟩] at hst
                 refine sv_wk (ih (i + 1) f2 (by omega) (by omega) h3b) ?_ rfl
                 rw [hst, if_neg (by show (i : Int) ≠ -1; omega)]; simp [sv_sub, sv_ent, sv_lng])
              | (rw [if_neg (by intro hh; obtain ⟨⟨y1, y2⟩, y3⟩ := hh; omega)] at hst
                 refine sv_wk (ih (i + 1) f2 (by omega) (by omega) h3b) ?_ rfl
                 rw [hst]; simp [sv_sub, sv_ent, sv_lng])
              | (rw [if_neg (by intro hh; obtain ⟨⟨y1, y2⟩, y3⟩ := hh; omega)] at hst
                 refine sv_wk (ih (i + 1) f1 (by omega) (by omega) h3) ?_ rfl
                 rw [hst]; simp [sv_sub, sv_ent, sv_lng])
            · refine sv_iload dX4_nearestToGame_84 rfl ?_
              refine sv_istore_n (i := 2) dX4_nearestToGame_86 rfl (by decide) rfl ?_
              refine sv_aload dX4_nearestToGame_87 rfl ?_
              refine sv_getI (kz := 0) flX4_93 dX4_nearestToGame_89 rfl rfl hk.lt hk.k ?_
              rw [hf2 _ (by omega), hkv.num]
              refine sv_istore_n (i := 1) dX4_nearestToGame_92 rfl (by decide) rfl ?_
              refine sv_iinc dX4_nearestToGame_93 rfl (by decide) rfl ?_
              refine sv_goto (tgt := 7) dX4_nearestToGame_96 (by decide) ?_
              have hst : sp_am (fun s => m (29 * s + 1) ≤ m 582 ∧ sp_R m (m (29 * s)) = -1) (fun s => sp_gd m (m (29 * s))) 13 (i + 1) = if (m (29 * (i : Int) + 1) ≤ m 582 ∧ sp_R m (m (29 * (i : Int))) = -1) ∧ sp_gd m (m (29 * (i : Int))) < ((sp_am (fun s => m (29 * s + 1) ≤ m 582 ∧ sp_R m (m (29 * s)) = -1) (fun s => sp_gd m (m (29 * s))) 13 i) : Int × Int).2 then ((i : Int), sp_gd m (m (29 * (i : Int)))) else (sp_am (fun s => m (29 * s + 1) ≤ m 582 ∧ sp_R m (m (29 * s)) = -1) (fun s => sp_gd m (m (29 * s))) 13 i) := rfl
              first
              | (rw [if_pos ⟨⟨by omega, by assumption⟩, by omega⟩] at hst
                 refine sv_wk (ih (i + 1) f2 (by omega) (by omega) h3b) ?_ rfl
                 rw [hst, if_neg (by show (i : Int) ≠ -1; omega)]; simp [sv_sub, sv_ent, sv_lng])
              | (rw [if_neg (by intro hh; obtain ⟨⟨y1, y2⟩, y3⟩ := hh; omega)] at hst
                 refine sv_wk (ih (i + 1) f2 (by omega) (by omega) h3b) ?_ rfl
                 rw [hst]; simp [sv_sub, sv_ent, sv_lng])
              | (rw [if_neg (by intro hh; obtain ⟨⟨y1, y2⟩, y3⟩ := hh; omega)] at hst
                 refine sv_wk (ih (i + 1) f1 (by omega) (by omega) h3) ?_ rfl
                 rw [hst]; simp [sv_sub, sv_ent, sv_lng])
  refine sv_iconst dX4_nearestToGame_0 ?_
  refine sv_istore_n (i := 1) dX4_nearestToGame_1 rfl (by decide) rfl ?_
  refine sv_bipush dX4_nearestToGame_2 (by decide) ?_
  refine sv_istore_n (i := 2) dX4_nearestToGame_4 rfl (by decide) rfl ?_
  refine sv_iconst dX4_nearestToGame_5 ?_
  refine sv_istore_n (i := 3) dX4_nearestToGame_6 rfl (by decide) rfl ?_
  exact lp (m 580 + 1).toNat 0 f (by omega) (by omega) (fun _ _ => rfl)
