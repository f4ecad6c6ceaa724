theorem sp_up_ne {m : Int → Int} {i a j : Int} (h : j ≠ i) : sp_up m i a j = m j := if_neg h
theorem sp_up_eq {m : Int → Int} {i a : Int} : sp_up m i a i = a := if_pos rfl
set_option maxRecDepth 100000 in
set_option maxHeartbeats 4000000 in
theorem c_X4_raiseReadN {X : sv_X} {S : sv_S} {f : sv_F} {r : sv_R} {g : sv_G} {V q d fo rs fi se pa sc : Nat} {kp fd : Int → Nat} {m : Int → Int} (hve : sv_K4 S r V q d fi se pa sc) (hmo : sv_K1 S r q kp) (hmv : sv_V1 f q kp m) (hre : sv_K2 S r d fo rs fd) (hw : sp_wt m) {a : Nat} (ha : a < S.1 ∧ S.2 a = (6, 12)) (s F : Int) (hs : 0 ≤ s ∧ s < m 580) (hF : m (29 * s + 1) ≤ F ∧ F ≤ 3) (hR : sp_R m (m (29 * s)) = -1) (hrd : ∀ j, 0 ≤ j → j < 6 + 2 * m (29 * s + 1) → f (fd s) j = sp_V m (m (29 * s)) j) (hda : a ≠ fd s) (hdq : a = q + 1) : sv_C X 2 MX4_raiseRead 0 0 [sv_r V, sv_i s, sv_i F, sv_r a] S f r g (sv_qv (fun f' => (∀ x, x ≠ a → f' x = f x) ∧ ∀ j, 0 ≤ j → j < 6 + 2 * F → f' a j = sp_rz (sp_V m (m (29 * s))) (m (29 * s + 1)) F j) S r g) := by
  refine sv_met (by decide) (by simp [lg_sl, sv_cv, va_rf, Value.category]) ?_
  refine sv_fr fun hin => ?_
  have hcc := hw.c
  have hfr := hw.frm hs.1 hs.2
  have hsl := hw.slot hs.1 hs.2
  have hk := hmo.o (p := s) (by omega) (by omega)
  have hkb := hmo.b (p := s) (by omega) (by omega)
  have hkv := hmv.o (s := s) (by omega) (by omega)
  have hb := hre.a (p := s) (by omega) (by omega)
  have hokB := sp_V_ok' hw hR
  rw [hsl] at hokB
  have hcp : ∀ j, 0 ≤ j → j < 6 + 2 * m (29 * s + 1) → sv_cp f a (fd s) 12 a j = sp_V m (m (29 * s)) j := fun j j0 j1 => by
    rw [← hrd j j0 j1]; simp [sv_cp]; omega
  have hok2 : sp_ok (sv_cp f a (fd s) 12 a) (6 + 2 * m (29 * s + 1)) := fun j j0 j1 => by rw [hcp j j0 j1]; exact hokB j j0 j1
  have hcn : ∀ x, x ≠ a → sv_cp f a (fd s) 12 x = f x := fun x hx => by funext y; simp [sv_cp, hx]
  refine sv_aload_n (i := 0) dX4_raiseRead_0 rfl rfl ?_
  refine sv_getR (kz := 4) flX4_34 dX4_raiseRead_1 rfl rfl hve.lt hve.k hve.r4 ?_
  refine sv_getR (kz := 0) flX4_201 dX4_raiseRead_4 rfl rfl hre.lt hre.k hre.r1 ?_
  refine sv_iload_n (i := 1) dX4_raiseRead_7 rfl rfl ?_
  refine sv_aald (t := 2) (n := 20) dX4_raiseRead_8 hre.l1 (by decide) hre.s1 (by omega) (hre.e (p := s) (by omega) (by omega)) ?_
  refine sv_iconst dX4_raiseRead_9 ?_
  refine sv_aload_n (i := 3) dX4_raiseRead_10 rfl rfl ?_
  refine sv_iconst dX4_raiseRead_11 ?_
  refine sv_bipush dX4_raiseRead_12 (by decide) ?_
  refine sv_copy (List.mem_of_getElem? (i := 271) (by decide +kernel)) sv_copyw hb.1 hb.2 ha.1 ha.2 (by decide) (Nat.le_of_ble_eq_true rfl) (by decide) dX4_raiseRead_14 ?_
  refine sv_aload_n (i := 3) dX4_raiseRead_17 rfl rfl ?_
  refine sv_aload_n (i := 0) dX4_raiseRead_18 rfl rfl ?_
  refine sv_getR (kz := 0) flX4_10 dX4_raiseRead_19 rfl rfl hve.lt hve.k hve.r0 ?_
  refine sv_getR (kz := 6) flX4_89 dX4_raiseRead_22 rfl rfl hmo.lt hmo.k hmo.r3 ?_
  refine sv_iload_n (i := 1) dX4_raiseRead_25 rfl rfl ?_
  refine sv_aald (t := 0) (n := 20) dX4_raiseRead_26 hmo.l3 (by decide) hmo.s3 (by omega) (hmo.e (p := s) (by omega) (by omega)) ?_
  refine sv_getI (kz := 1) flX4_98 dX4_raiseRead_27 rfl rfl hk.lt hk.k ?_
  rw [hcn _ (by omega), hkv.form]
  refine sv_iload_n (i := 2) dX4_raiseRead_30 rfl rfl ?_
  refine sv_sv0 (As := [_, _, _]) clX4_75 dX4_raiseRead_31 rfl (Nat.le_of_ble_eq_true rfl) (by decide) (by decide) (c_X4_raiseValues ha (by omega) (by omega) (fun _ => hok2)) (fun f2 hf2 => ?_)
  refine sv_return dX4_raiseRead_34 rfl ?_
  rw [hf2]
  refine ⟨rfl, rfl, rfl, rfl, fun x hx => by rw [sv_row_ne hx, hcn x hx], fun j j0 j1 => ?_⟩
  rw [sv_row_eq]
  exact sp_rz_congr hfr.1 hF.1 hF.2 hcp j j0 j1
set_option maxRecDepth 100000 in
set_option maxHeartbeats 4000000 in
theorem c_X4_alter {X : sv_X} {S : sv_S} {f : sv_F} {r : sv_R} {g : sv_G} {V q d fo rs fi se pa sc : Nat} {kp fd : Int → Nat} {m : Int → Int} (hve : sv_K4 S r V q d fi se pa sc) (hmo : sv_K1 S r q kp) (hmv : sv_V1 f q kp m) (hre : sv_K2 S r d fo rs fd) (hw : sp_wt m) {tx vs : Nat} (hsc : sv_K3 S r sc tx vs) (hp : sv_sep V q fi se sc tx vs rs fd) {mp : Int → Nat} {kq : Int → Int → Nat} {P : Int → Int → Int} {u : Int} (hh : sv_HI S r V q fi se sc tx vs rs fd pa mp kq) (hu : 0 ≤ u ∧ u ≤ 6) (hVu : f V 2 = u) (hpv : ∀ i, 0 ≤ i → i < u → sv_V1 f (mp i) (kq i) (P i)) (hpw : ∀ i, 0 ≤ i → i < u → sp_wt (P i) ∧ sp_wg (P i)) (hg : sp_wg m) (k i v : Int) (hki : sv_in k) (hii : sv_in i) (hvi : sv_in v) : sv_C X 4 MX4_alter 0 0 [sv_r V, sv_i k, sv_i i, sv_i v] S f r g (sv_qk (fun a f' r' => ((sp_slot m k = -1 ∨ ¬ (0 ≤ i ∧ i < m (29 * sp_slot m k + 4)) ∨ ¬ (0 ≤ v ∧ v ≤ 99)) ∧ a = -2 ∧ f' = f ∧ r' = r) ∨ (¬ (sp_slot m k = -1 ∨ ¬ (0 ≤ i ∧ i < m (29 * sp_slot m k + 4)) ∨ ¬ (0 ≤ v ∧ v ≤ 99)) ∧ a = m (29 * sp_slot m k + (17 + i)) ∧ (sv_NX S V q d fo rs fi se pa sc tx vs fd mp r f (sp_up m (29 * sp_slot m k + (17 + i)) v) (sp_ku u) (sp_kP m P u) f' r'))) S g) := by
  refine sv_met (by decide) (by simp [lg_sl, sv_cv, va_rf, Value.category]) ?_
  refine sv_fr fun hin => ?_
  have hcc := hw.c
  have hgf := hg.f
  refine sv_aload_n (i := 0) dX4_alter_0 rfl rfl ?_
  refine sv_getR (kz := 0) flX4_10 dX4_alter_1 rfl rfl hve.lt hve.k hve.r0 ?_
  refine sv_iload_n (i := 1) dX4_alter_4 rfl rfl ?_
  refine sv_vp0 (As := [_]) clX4_124 dX4_alter_5 ⟨_, rfl, rfl⟩ (by decide) rfl (Nat.le_of_ble_eq_true rfl) (by decide) (by decide) hmo.lt hmo.k (c_X1_placeOf hmo hmv hcc _ hki) ?_
  have hst := sp_slot_spec m k
  refine sv_istore dX4_alter_8 (by decide) rfl ?_
  refine sv_iload dX4_alter_10 rfl ?_
  refine sv_iconst dX4_alter_12 ?_
  refine sv_icmp_eq (tgt := 26) dX4_alter_13 (by decide) (by first | omega | exact hin _ _ | decide | (simp [sv_u, sv_row]; omega) | (simp [sv_u, sv_row]; exact hin _ _) | exact hin1 _ _ | (simp [sv_u, sv_row]; exact hin1 _ _)) (by first | omega | exact hin _ _ | decide | (simp [sv_u, sv_row]; omega) | (simp [sv_u, sv_row]; exact hin _ _) | exact hin1 _ _ | (simp [sv_u, sv_row]; exact hin1 _ _)) (fun h_13 => ?_) (fun h_13 => ?_)
  · refine sv_bipush dX4_alter_26 (by decide) ?_
    refine sv_ireturn dX4_alter_28 rfl ?_
    exact ⟨_, rfl, rfl, rfl, Or.inl ⟨by first | exact Or.inl (by assumption) | exact Or.inr (Or.inr (by omega)), rfl, rfl, rfl⟩⟩
  · refine sv_iload_n (i := 3) dX4_alter_16 rfl rfl ?_
    refine sv_if_lt (tgt := 26) dX4_alter_17 (by decide) (by first | omega | exact hin _ _ | decide | (simp [sv_u, sv_row]; omega) | (simp [sv_u, sv_row]; exact hin _ _) | exact hin1 _ _ | (simp [sv_u, sv_row]; exact hin1 _ _)) (fun h_17 => ?_) (fun h_17 => ?_)
    · refine sv_bipush dX4_alter_26 (by decide) ?_
      refine sv_ireturn dX4_alter_28 rfl ?_
      exact ⟨_, rfl, rfl, rfl, Or.inl ⟨by first | exact Or.inl (by assumption) | exact Or.inr (Or.inr (by omega)), rfl, rfl, rfl⟩⟩
    · refine sv_iload_n (i := 3) dX4_alter_20 rfl rfl ?_
      refine sv_bipush dX4_alter_21 (by decide) ?_
      refine sv_icmp_le (tgt := 29) dX4_alter_23 (by decide) (by first | omega | exact hin _ _ | decide | (simp [sv_u, sv_row]; omega) | (simp [sv_u, sv_row]; exact hin _ _) | exact hin1 _ _ | (simp [sv_u, sv_row]; exact hin1 _ _)) (by first | omega | exact hin _ _ | decide | (simp [sv_u, sv_row]; omega) | (simp [sv_u, sv_row]; exact hin _ _) | exact hin1 _ _ | (simp [sv_u, sv_row]; exact hin1 _ _)) (fun h_23 => ?_) (fun h_23 => ?_)
      · refine sv_aload_n (i := 0) dX4_alter_29 rfl rfl ?_
        refine sv_getR (kz := 0) flX4_10 dX4_alter_30 rfl rfl hve.lt hve.k hve.r0 ?_
        refine sv_getR (kz := 6) flX4_89 dX4_alter_33 rfl rfl hmo.lt hmo.k hmo.r3 ?_
        refine sv_iload dX4_alter_36 rfl ?_
        have hsn : sp_slot m k ≠ -1 := by assumption
        obtain ⟨s0, s1, s2⟩ := sp_slot_in hsn
        have hk := hmo.o (p := sp_slot m k) (by omega) (by omega)
        have hkv := hmv.o (s := sp_slot m k) (by omega) (by omega)
        have hkb := hmo.b (p := sp_slot m k) (by omega) (by omega)
        have hmy := hw.many s0 s1
        refine sv_aald (t := 0) (n := 20) dX4_alter_38 hmo.l3 (by decide) hmo.s3 (by omega) (hmo.e (p := sp_slot m k) (by omega) (by omega)) ?_
        refine sv_astore dX4_alter_39 (by decide) rfl ?_
        refine sv_iload_n (i := 2) dX4_alter_41 rfl rfl ?_
        refine sv_if_lt (tgt := 54) dX4_alter_42 (by decide) (by first | omega | exact hin _ _ | decide | (simp [sv_u, sv_row]; omega) | (simp [sv_u, sv_row]; exact hin _ _) | exact hin1 _ _ | (simp [sv_u, sv_row]; exact hin1 _ _)) (fun h_42 => ?_) (fun h_42 => ?_)
        · refine sv_bipush dX4_alter_54 (by decide) ?_
          refine sv_ireturn dX4_alter_56 rfl ?_
          exact ⟨_, rfl, rfl, rfl, Or.inl ⟨Or.inr (Or.inl (by omega)), rfl, rfl, rfl⟩⟩
        · refine sv_iload_n (i := 2) dX4_alter_45 rfl rfl ?_
          refine sv_aload dX4_alter_46 rfl ?_
          refine sv_getI (kz := 4) flX4_149 dX4_alter_48 rfl rfl hk.lt hk.k ?_
          rw [hkv.size]
          refine sv_icmp_lt (tgt := 57) dX4_alter_51 (by decide) hii (by omega) (fun h_51 => ?_) (fun h_51 => ?_)
          · refine sv_aload_n (i := 0) dX4_alter_57 rfl rfl ?_
            refine sv_vh0 (As := []) clX4_65 dX4_alter_58 ⟨_, rfl, rfl⟩ (by decide) rfl (Nat.le_of_ble_eq_true rfl) (by decide) (by decide) hve.lt hve.k (c_X4_remember hve hmo hmv hre hw hsc hp hh hu hVu hpv hpw hg) (fun f1 r1 hrm => ?_)
            obtain ⟨mp1, kq1, hh1, hrk, hV2, hhk, hpv1, hpm1⟩ := hrm
            have hve := hve.rk hrk
            have hmo := hmo.rk hrk
            have hre := hre.rk hrk
            have hsc := hsc.rk hrk
            have hVx := (hp.1 V (by simp)).1
            have hmv1 : sv_V1 f1 q kp m := sv_V1.congr hmo hcc hmv fun x x0 x1 => hh1.of hhk (by omega) (Or.inl ⟨x0, x1⟩)
            have hsc1 : f1 sc = f sc := hh1.of hhk (Ne.symm hp.2.2.2.1.1) (by simp)
            have htx1 : f1 tx = f tx := hh1.of hhk (Ne.symm hp.2.2.2.1.2.1) (by simp)
            have hpw1 := sp_kP_w hw hg hu hpw
            have hku : sp_ku u ≤ 6 := by unfold sp_ku; split <;> omega
            have hff1 : ∀ N, sv_bd N V q fi se sc tx vs rs pa fd mp → ∀ x, N ≤ x → f1 x = f x ∧ ((S.2 x).1 ≠ 9 → r1 x = r x) := fun N hN x hx => ⟨by
              rw [hhk.2 x (by have := hN.1; omega) (fun i i0 i1 => by obtain ⟨j, j0, j1, j2⟩ := hpm1 i i0 i1; have := hN.2.2 j j0 j1; omega)], hrk x⟩
            have hk := hk.rk hrk
            have hkv1 := hmv1.o (s := sp_slot m k) (by omega) (by omega)
            refine sv_aload dX4_alter_61 rfl ?_
            refine sv_getR (kz := 6) flX4_150 dX4_alter_63 rfl rfl hk.lt hk.k hk.r2 ?_
            refine sv_iload_n (i := 2) dX4_alter_66 rfl rfl ?_
            refine sv_iald dX4_alter_67 hk.l2 hk.s2 (by omega) ?_
            rw [hkv1.val (by omega) (by omega)]
            refine sv_istore dX4_alter_68 (by decide) rfl ?_
            refine sv_aload dX4_alter_70 rfl ?_
            refine sv_getR (kz := 6) flX4_150 dX4_alter_72 rfl rfl hk.lt hk.k hk.r2 ?_
            refine sv_iload_n (i := 2) dX4_alter_75 rfl rfl ?_
            refine sv_iload_n (i := 3) dX4_alter_76 rfl rfl ?_
            refine sv_iast dX4_alter_77 hk.l2 hk.s2 (by omega) hvi ?_
            refine sv_iload dX4_alter_78 rfl ?_
            refine sv_ireturn dX4_alter_80 rfl ?_
            refine ⟨_, rfl, rfl, rfl, Or.inr ⟨by omega, rfl, sv_NX.of hve hmo hre hsc hh1 hV2 hpv1 hpw1 hku (by rw [hsc1]) htx1 hpm1 hff1 hp (fun x x0 _ _ _ _ _ => sv_u_ne (by omega)) (sv_V1.row1 hmo hmv1 hw s0 s1 (fun x x0 _ _ => sv_u_ne (by omega)) (fun j _ _ j1 => by unfold sp_up; rw [if_neg (by omega)]) ?_ hgf.2)⟩⟩
            refine ⟨?_, ?_, ?_, ?_, ?_, fun j j0 j1 => ?_⟩
            · rw [sv_u_ne (by omega), sp_up_ne (by omega)]; exact hkv1.num
            · rw [sv_u_ne (by omega), sp_up_ne (by omega)]; exact hkv1.form
            · rw [sv_u_ne (by omega), sp_up_ne (by omega)]; exact hkv1.sum
            · rw [sv_u_ne (by omega), sp_up_ne (by omega)]; exact hkv1.base
            · rw [sv_u_ne (by omega), sp_up_ne (by omega)]; exact hkv1.size
            · rw [sp_up_ne (by omega)] at j1
              refine ⟨?_, ?_⟩
              · rw [sv_u_ne (by omega), sp_up_ne (by omega)]; exact hkv1.idx j0 j1
              · by_cases e : j = i
                · subst e; rw [sp_up_eq]; simp [sv_u]
                · rw [sp_up_ne (by omega)]; unfold sv_u; rw [if_neg (by omega)]; exact hkv1.val j0 j1
          · refine sv_bipush dX4_alter_54 (by decide) ?_
            refine sv_ireturn dX4_alter_56 rfl ?_
            exact ⟨_, rfl, rfl, rfl, Or.inl ⟨Or.inr (Or.inl (by omega)), rfl, rfl, rfl⟩⟩
      · refine sv_bipush dX4_alter_26 (by decide) ?_
        refine sv_ireturn dX4_alter_28 rfl ?_
        exact ⟨_, rfl, rfl, rfl, Or.inl ⟨by first | exact Or.inl (by assumption) | exact Or.inr (Or.inr (by omega)), rfl, rfl, rfl⟩⟩
set_option maxRecDepth 100000 in
set_option maxHeartbeats 4000000 in
theorem c_X4_raise {X : sv_X} {S : sv_S} {f : sv_F} {r : sv_R} {g : sv_G} {V q d fo rs fi se pa sc : Nat} {kp fd : Int → Nat} {m : Int → Int} (hve : sv_K4 S r V q d fi se pa sc) (hmo : sv_K1 S r q kp) (hmv : sv_V1 f q kp m) (hre : sv_K2 S r d fo rs fd) (hw : sp_wt m) {tx vs : Nat} (hsc : sv_K3 S r sc tx vs) (hp : sv_sep V q fi se sc tx vs rs fd) {mp : Int → Nat} {kq : Int → Int → Nat} {P : Int → Int → Int} {u : Int} (hh : sv_HI S r V q fi se sc tx vs rs fd pa mp kq) (hu : 0 ≤ u ∧ u ≤ 6) (hVu : f V 2 = u) (hpv : ∀ i, 0 ≤ i → i < u → sv_V1 f (mp i) (kq i) (P i)) (hpw : ∀ i, 0 ≤ i → i < u → sp_wt (P i) ∧ sp_wg (P i)) (hg : sp_wg m)  : sv_C X 4 MX4_raise 0 0 [sv_r V] S f r g (sv_qk (fun a f' r' => (m 582 = 3 ∧ a = -3 ∧ f' = f ∧ r' = r) ∨ (m 582 ≠ 3 ∧ a = m 582 + 1 ∧ (∀ N, sv_bd N V q fi se sc tx vs rs pa fd mp → ∀ x, N ≤ x → f' x = f x ∧ ((S.2 x).1 ≠ 9 → r' x = r x)) ∧ ∀ m', sp_raise m m' → (sv_NX S V q d fo rs fi se pa sc tx vs fd mp r f m' (sp_ku u) (sp_kP m P u) f' r'))) S g) := by
  refine sv_met (by decide) (by simp [lg_sl, sv_cv, va_rf, Value.category]) ?_
  refine sv_fr fun hin => ?_
  have hcc := hw.c
  have hgf := hg.f
  refine sv_aload_n (i := 0) dX4_raise_0 rfl rfl ?_
  refine sv_getR (kz := 0) flX4_10 dX4_raise_1 rfl rfl hve.lt hve.k hve.r0 ?_
  refine sv_getI (kz := 0) flX4_54 dX4_raise_4 rfl rfl hmo.lt hmo.k ?_
  rw [hmv.form]
  refine sv_iconst dX4_raise_7 ?_
  refine sv_icmp_lt (tgt := 14) dX4_raise_8 (by decide) (by first | omega | exact hin _ _ | decide | (simp [sv_u, sv_row]; omega) | (simp [sv_u, sv_row]; exact hin _ _) | exact hin1 _ _ | (simp [sv_u, sv_row]; exact hin1 _ _)) (by first | omega | exact hin _ _ | decide | (simp [sv_u, sv_row]; omega) | (simp [sv_u, sv_row]; exact hin _ _) | exact hin1 _ _ | (simp [sv_u, sv_row]; exact hin1 _ _)) (fun h_8 => ?_) (fun h_8 => ?_)
  · refine sv_aload_n (i := 0) dX4_raise_14 rfl rfl ?_
    refine sv_vh0 (As := []) clX4_65 dX4_raise_15 ⟨_, rfl, rfl⟩ (by decide) rfl (Nat.le_of_ble_eq_true rfl) (by decide) (by decide) hve.lt hve.k (c_X4_remember hve hmo hmv hre hw hsc hp hh hu hVu hpv hpw hg) (fun f1 r1 hrm => ?_)
    obtain ⟨mp1, kq1, hh1, hrk, hV2, hhk, hpv1, hpm1⟩ := hrm
    have hve := hve.rk hrk
    have hmo := hmo.rk hrk
    have hre := hre.rk hrk
    have hsc := hsc.rk hrk
    have hVx := (hp.1 V (by simp)).1
    have hmv1 : sv_V1 f1 q kp m := sv_V1.congr hmo hcc hmv fun x x0 x1 => hh1.of hhk (by omega) (Or.inl ⟨x0, x1⟩)
    have hsc1 : f1 sc = f sc := hh1.of hhk (Ne.symm hp.2.2.2.1.1) (by simp)
    have htx1 : f1 tx = f tx := hh1.of hhk (Ne.symm hp.2.2.2.1.2.1) (by simp)
    have hpw1 := sp_kP_w hw hg hu hpw
    have hku : sp_ku u ≤ 6 := by unfold sp_ku; split <;> omega
    have hff1 : ∀ N, sv_bd N V q fi se sc tx vs rs pa fd mp → ∀ x, N ≤ x → f1 x = f x ∧ ((S.2 x).1 ≠ 9 → r1 x = r x) := fun N hN x hx => ⟨by
      rw [hhk.2 x (by have := hN.1; omega) (fun i i0 i1 => by obtain ⟨j, j0, j1, j2⟩ := hpm1 i i0 i1; have := hN.2.2 j j0 j1; omega)], hrk x⟩
    refine sv_aload_n (i := 0) dX4_raise_18 rfl rfl ?_
    refine sv_getR (kz := 0) flX4_10 dX4_raise_19 rfl rfl hve.lt hve.k hve.r0 ?_
    refine sv_getR (kz := 4) flX4_51 dX4_raise_22 rfl rfl hmo.lt hmo.k hmo.r1 ?_
    refine sv_aload_n (i := 0) dX4_raise_25 rfl rfl ?_
    refine sv_getR (kz := 0) flX4_10 dX4_raise_26 rfl rfl hve.lt hve.k hve.r0 ?_
    refine sv_getI (kz := 0) flX4_54 dX4_raise_29 rfl rfl hmo.lt hmo.k ?_
    rw [hmv1.form]
    refine sv_aload_n (i := 0) dX4_raise_32 rfl rfl ?_
    refine sv_getR (kz := 0) flX4_10 dX4_raise_33 rfl rfl hve.lt hve.k hve.r0 ?_
    refine sv_getI (kz := 0) flX4_54 dX4_raise_36 rfl rfl hmo.lt hmo.k ?_
    rw [hmv1.form]
    refine sv_iconst dX4_raise_39 ?_
    refine sv_iadd dX4_raise_40 ?_
    refine sv_sv0 (As := [_, _, _]) clX4_75 dX4_raise_41 rfl (Nat.le_of_ble_eq_true rfl) (by decide) (by decide) (c_X4_raiseValues ⟨hmo.l1, hmo.s1⟩ (by omega) (by unfold sv_in; omega) (fun _ j j0 j1 => by rw [hmv1.val j0 j1]; exact hg.v j j0 j1)) (fun f2 hf2 => ?_)
    have hq2 : f2 q = f1 q := by rw [hf2]; exact sv_row_ne (by omega)
    refine sv_aload_n (i := 0) dX4_raise_44 rfl rfl ?_
    refine sv_getR (kz := 0) flX4_10 dX4_raise_45 rfl rfl hve.lt hve.k hve.r0 ?_
    refine sv_dup dX4_raise_48 rfl ?_
    refine sv_getI (kz := 0) flX4_54 dX4_raise_49 rfl rfl hmo.lt hmo.k ?_
    rw [hq2, hmv1.form]
    refine sv_iconst dX4_raise_52 ?_
    refine sv_iadd dX4_raise_53 ?_
    refine sv_putI (kz := 0) flX4_54 dX4_raise_54 (Or.inl rfl) rfl rfl hmo.lt hmo.k (by first | omega | exact hin _ _ | decide | (simp [sv_u, sv_row]; omega) | (simp [sv_u, sv_row]; exact hin _ _) | exact hin1 _ _ | (simp [sv_u, sv_row]; exact hin1 _ _)) ?_
    refine sv_aload_n (i := 0) dX4_raise_57 rfl rfl ?_
    refine sv_getR (kz := 0) flX4_10 dX4_raise_58 rfl rfl hve.lt hve.k hve.r0 ?_
    refine sv_getI (kz := 0) flX4_54 dX4_raise_61 rfl rfl hmo.lt hmo.k ?_
    rw [show sv_u f2 q 0 (m 582 + 1) q 0 = m 582 + 1 by simp [sv_u]]
    refine sv_ireturn dX4_raise_64 rfl ?_
    have ho2 : ∀ x, x ≠ q → x ≠ q + 1 → sv_u f2 q 0 (m 582 + 1) x = f1 x := fun x x0 x1 => by rw [sv_u_ne x0, hf2]; exact sv_row_ne x1
    refine ⟨_, rfl, rfl, rfl, Or.inr ⟨by omega, rfl, fun N hN x hx => ⟨(ho2 x (by have := hN.1; omega) (by have := hN.1; omega)).trans (hff1 N hN x hx).1, (hff1 N hN x hx).2⟩, fun m' hm' => ?_⟩⟩
    obtain ⟨t1, t2, t3, t4, t5, t6⟩ := hm'
    refine sv_NX.of hve hmo hre hsc hh1 hV2 hpv1 hpw1 hku (by rw [hsc1]) htx1 hpm1 hff1 hp (fun x x0 _ _ _ _ _ => ho2 x (by omega) (by omega)) (sv_V1.game hmo hmv1 hw (fun x x0 x1 => ho2 x (by omega) (by omega)) t1 ?_ ?_ ?_ ?_ (fun j j0 j1 => ?_) ?_ ?_)
    · rw [t2]; simp [sv_u]
    · rw [t3]; unfold sv_u; rw [if_neg (by omega), hq2]; exact hmv1.orig
    · unfold sv_u; rw [if_neg (by omega), hq2]
    · unfold sv_u; rw [if_neg (by omega), hq2]
    · rw [t2] at j1
      rw [t6 j j0 j1, sv_u_ne (by omega), hf2, sv_row_eq]
      exact sp_rz_congr hgf.1 (by omega) (by omega) (fun i i0 i1 => hmv1.val i0 i1) j j0 j1
    · rw [t4, ho2 _ (by omega) (by omega)]; exact hmv1.lim
    · rw [t5, ho2 _ (by omega) (by omega)]; exact hmv1.ris
  · refine sv_bipush dX4_raise_11 (by decide) ?_
    refine sv_ireturn dX4_raise_13 rfl ?_
    exact ⟨_, rfl, rfl, rfl, Or.inl ⟨by omega, rfl, rfl, rfl⟩⟩
set_option maxRecDepth 100000 in
set_option maxHeartbeats 4000000 in
theorem c_X4_load {X : sv_X} {S : sv_S} {f : sv_F} {r : sv_R} {g : sv_G} {V q d fo rs fi se pa sc : Nat} {kp fd : Int → Nat} {m : Int → Int} (hve : sv_K4 S r V q d fi se pa sc) (hmo : sv_K1 S r q kp) (hmv : sv_V1 f q kp m) (hre : sv_K2 S r d fo rs fd) (hw : sp_wt m) {tx vs : Nat} (hsc : sv_K3 S r sc tx vs) (hp : sv_sep V q fi se sc tx vs rs fd) {mp : Int → Nat} {kq : Int → Int → Nat} {P : Int → Int → Int} {u : Int} (hh : sv_HI S r V q fi se sc tx vs rs fd pa mp kq) (hu : 0 ≤ u ∧ u ≤ 6) (hVu : f V 2 = u) (hpv : ∀ i, 0 ≤ i → i < u → sv_V1 f (mp i) (kq i) (P i)) (hpw : ∀ i, 0 ≤ i → i < u → sp_wt (P i) ∧ sp_wg (P i)) (hg : sp_wg m) (k : Int) (hki : sv_in k) : sv_C X 4 MX4_load 0 0 [sv_r V, sv_i k] S f r g (sv_qk (fun a f' r' => (sp_slot m k = -1 ∧ a = -2 ∧ f' = f ∧ r' = r) ∨ (sp_slot m k ≠ -1 ∧ sp_R m k ≠ -1 ∧ a = -3 ∧ sv_un rs fi se fd f f' ∧ r' = r) ∨ (sp_slot m k ≠ -1 ∧ sp_R m k = -1 ∧ a = sp_lform m k ∧ (∀ N, sv_bd N V q fi se sc tx vs rs pa fd mp → ∀ x, N ≤ x → f' x = f x ∧ ((S.2 x).1 ≠ 9 → r' x = r x)) ∧ ∀ m', sp_load m k m' → (sv_NX S V q d fo rs fi se pa sc tx vs fd mp r f m' (sp_ku u) (sp_kP m P u) f' r'))) S g) := by
  refine sv_met (by decide) (by simp [lg_sl, sv_cv, va_rf, Value.category]) ?_
  refine sv_fr fun hin => ?_
  have hcc := hw.c
  have hgf := hg.f
  refine sv_aload_n (i := 0) dX4_load_0 rfl rfl ?_
  refine sv_getR (kz := 0) flX4_10 dX4_load_1 rfl rfl hve.lt hve.k hve.r0 ?_
  refine sv_iload_n (i := 1) dX4_load_4 rfl rfl ?_
  refine sv_vp0 (As := [_]) clX4_124 dX4_load_5 ⟨_, rfl, rfl⟩ (by decide) rfl (Nat.le_of_ble_eq_true rfl) (by decide) (by decide) hmo.lt hmo.k (c_X1_placeOf hmo hmv hcc _ hki) ?_
  have hst := sp_slot_spec m k
  refine sv_istore_n (i := 2) dX4_load_8 rfl (by decide) rfl ?_
  refine sv_iload_n (i := 2) dX4_load_9 rfl rfl ?_
  refine sv_iconst dX4_load_10 ?_
  refine sv_icmp_ne (tgt := 17) dX4_load_11 (by decide) (by first | omega | exact hin _ _ | decide | (simp [sv_u, sv_row]; omega) | (simp [sv_u, sv_row]; exact hin _ _) | exact hin1 _ _ | (simp [sv_u, sv_row]; exact hin1 _ _)) (by first | omega | exact hin _ _ | decide | (simp [sv_u, sv_row]; omega) | (simp [sv_u, sv_row]; exact hin _ _) | exact hin1 _ _ | (simp [sv_u, sv_row]; exact hin1 _ _)) (fun h_11 => ?_) (fun h_11 => ?_)
  · have hsn : sp_slot m k ≠ -1 := by assumption
    obtain ⟨s0, s1, s2⟩ := sp_slot_in hsn
    have hfm := hw.frm s0 s1
    have hk := hmo.o (p := sp_slot m k) (by omega) (by omega)
    have hkb := hmo.b (p := sp_slot m k) (by omega) (by omega)
    refine sv_aload_n (i := 0) dX4_load_17 rfl rfl ?_
    refine sv_getR (kz := 4) flX4_34 dX4_load_18 rfl rfl hve.lt hve.k hve.r4 ?_
    refine sv_aload_n (i := 0) dX4_load_21 rfl rfl ?_
    refine sv_getR (kz := 0) flX4_10 dX4_load_22 rfl rfl hve.lt hve.k hve.r0 ?_
    refine sv_vv0 (As := [_]) clX4_85 dX4_load_25 ⟨_, rfl, rfl⟩ (by decide) rfl (Nat.le_of_ble_eq_true rfl) (by decide) (by decide) hre.lt hre.k (c_X2_readAll hmo hmv hre hp.2.2.1 hw hp.2.1) (fun f0 hf0 => ?_)
    obtain ⟨hr1, hv2⟩ := hf0
    have hun : sv_un rs fi se fd f f0 := fun x a b _ _ => hr1 x a b
    have hv1 : sv_V1 f0 q kp m := sv_V1.congr hmo hcc hmv fun x x0 x1 => hr1 x (by have := hp.2.1; omega) fun p p0 p1 => by have := hp.2.2.1 p p0 p1; omega
    obtain ⟨u1, u2, u3, u4⟩ := hp.un hun
    have hVrs : V ≠ rs := (hp.1 V (by simp)).2.1
    have hVfd : ∀ p, 0 ≤ p → p < 20 → V ≠ fd p := (hp.1 V (by simp)).2.2
    have hVu0 : f0 V 2 = u := by rw [u1]; exact hVu
    have hpv0 : ∀ i, 0 ≤ i → i < u → sv_V1 f0 (mp i) (kq i) (P i) := fun i i0 i1 => sv_V1.congr (hh.o i0 (by omega)) (hpw i i0 i1).1.c (hpv i i0 i1) fun x x0 x1 => hr1 x (by have := hh.x i0 (by omega : i < 6) rs (by simp); omega) fun p p0 p1 => by have := hh.p i0 (by omega : i < 6) p p0 p1; omega
    have hv2a := hv2 _ s0 s1
    rw [s2] at hv2a
    have hri1 := sp_R_in hw (n := k)
    refine sv_aload_n (i := 0) dX4_load_28 rfl rfl ?_
    refine sv_getR (kz := 4) flX4_34 dX4_load_29 rfl rfl hve.lt hve.k hve.r4 ?_
    refine sv_getR (kz := 1) flX4_127 dX4_load_32 rfl rfl hre.lt hre.k hre.r2 ?_
    refine sv_iload_n (i := 2) dX4_load_35 rfl rfl ?_
    refine sv_iald dX4_load_36 hre.l2 hre.s2 (by omega) ?_
    rw [hv2a.1]
    refine sv_iconst dX4_load_37 ?_
    refine sv_icmp_eq (tgt := 44) dX4_load_38 (by decide) (by omega) (by first | omega | exact hin _ _ | decide | (simp [sv_u, sv_row]; omega) | (simp [sv_u, sv_row]; exact hin _ _) | exact hin1 _ _ | (simp [sv_u, sv_row]; exact hin1 _ _)) (fun h_38 => ?_) (fun h_38 => ?_)
    · have hRk : sp_R m k = -1 := by assumption
      refine sv_aload_n (i := 0) dX4_load_44 rfl rfl ?_
      refine sv_vh0 (As := []) clX4_65 dX4_load_45 ⟨_, rfl, rfl⟩ (by decide) rfl (Nat.le_of_ble_eq_true rfl) (by decide) (by decide) hve.lt hve.k (c_X4_remember hve hmo hv1 hre hw hsc hp hh hu hVu0 hpv0 hpw hg) (fun f1 r1 hrm => ?_)
      obtain ⟨mp1, kq1, hh1, hrk, hV2, hhk, hpv1, hpm1⟩ := hrm
      have hve := hve.rk hrk
      have hmo := hmo.rk hrk
      have hre := hre.rk hrk
      have hsc := hsc.rk hrk
      have hVx := (hp.1 V (by simp)).1
      have hmv1 : sv_V1 f1 q kp m := sv_V1.congr hmo hcc hv1 fun x x0 x1 => hh1.of hhk (by omega) (Or.inl ⟨x0, x1⟩)
      have hsc1 : f1 sc = f0 sc := hh1.of hhk (Ne.symm hp.2.2.2.1.1) (by simp)
      have htx1 : f1 tx = f0 tx := hh1.of hhk (Ne.symm hp.2.2.2.1.2.1) (by simp)
      have hpw1 := sp_kP_w hw hg hu hpw
      have hku : sp_ku u ≤ 6 := by unfold sp_ku; split <;> omega
      have hff1 : ∀ N, sv_bd N V q fi se sc tx vs rs pa fd mp → ∀ x, N ≤ x → f1 x = f x ∧ ((S.2 x).1 ≠ 9 → r1 x = r x) := fun N hN x hx => ⟨by
        rw [hhk.2 x (by have := hN.1; omega) (fun i i0 i1 => by obtain ⟨j, j0, j1, j2⟩ := hpm1 i i0 i1; have := hN.2.2 j j0 j1; omega)]
        exact hr1 x (by have := hN.1; omega) (fun p p0 p1 => by have := hN.2.1 p p0 p1; omega), hrk x⟩
      have hv2b : sv_V2 f1 rs fd m (m 580) := sv_V2.congr hcc (hh1.of hhk (Ne.symm hVrs) (by simp)) (fun p p0 p1 => hh1.of hhk (Ne.symm (hVfd p p0 p1)) (by right; right; right; right; right; right; right; exact ⟨p, p0, p1, rfl⟩)) hv2
      have hk := hk.rk hrk
      have hkv1 := hmv1.o (s := sp_slot m k) (by omega) (by omega)
      obtain ⟨vv1, vv2⟩ := hv2b _ s0 s1
      have lp : ∀ F : Int, F = sp_lform m k → sv_T X (sv_rm 4 0 0) MX4_load (sv_Zm X 0 0 (sv_qk (fun a f' r' => (sp_slot m k = -1 ∧ a = -2 ∧ f' = f ∧ r' = r) ∨ (sp_slot m k ≠ -1 ∧ sp_R m k ≠ -1 ∧ a = -3 ∧ sv_un rs fi se fd f f' ∧ r' = r) ∨ (sp_slot m k ≠ -1 ∧ sp_R m k = -1 ∧ a = sp_lform m k ∧ (∀ N, sv_bd N V q fi se sc tx vs rs pa fd mp → ∀ x, N ≤ x → f' x = f x ∧ ((S.2 x).1 ≠ 9 → r' x = r x)) ∧ ∀ m', sp_load m k m' → (sv_NX S V q d fo rs fi se pa sc tx vs fd mp r f m' (sp_ku u) (sp_kP m P u) f' r'))) S g)) 0 0 86 [some (sv_r V), some (sv_i k), some (sv_i (sp_slot m k)), some (sv_i F)] [] S (f1) r1 g := by
        intro F hF
        have hFb : m (29 * sp_slot m k + 1) ≤ F ∧ F ≤ 3 := by rw [hF]; unfold sp_lform; split <;> omega
        refine sv_aload_n (i := 0) dX4_load_86 rfl rfl ?_
        refine sv_iload_n (i := 2) dX4_load_87 rfl rfl ?_
        refine sv_iload_n (i := 3) dX4_load_88 rfl rfl ?_
        refine sv_aload_n (i := 0) dX4_load_89 rfl rfl ?_
        refine sv_getR (kz := 0) flX4_10 dX4_load_90 rfl rfl hve.lt hve.k hve.r0 ?_
        refine sv_getR (kz := 4) flX4_51 dX4_load_93 rfl rfl hmo.lt hmo.k hmo.r1 ?_
        refine sv_vv0 (As := [_, _, _]) clX4_113 dX4_load_96 ⟨_, rfl, rfl⟩ (by decide) rfl (Nat.le_of_ble_eq_true rfl) (by decide) (by decide) hve.lt hve.k (c_X4_raiseReadN hve hmo hmv1 hre hw ⟨hmo.l1, hmo.s1⟩ (sp_slot m k) F ⟨s0, s1⟩ hFb (by rw [s2]; exact hRk) (fun j j0 j1 => by rw [s2] at vv2 ⊢; exact vv2 hRk j j0 j1) (by have := hp.2.2.1 _ s0 (by omega : sp_slot m k < 20); omega) rfl) (fun f2 hf2 => ?_)
        obtain ⟨e1, e2⟩ := hf2
        refine sv_aload_n (i := 0) dX4_load_99 rfl rfl ?_
        refine sv_getR (kz := 0) flX4_10 dX4_load_100 rfl rfl hve.lt hve.k hve.r0 ?_
        refine sv_iload_n (i := 3) dX4_load_103 rfl rfl ?_
        refine sv_putI (kz := 0) flX4_54 dX4_load_104 (Or.inl rfl) rfl rfl hmo.lt hmo.k (by unfold sv_in; omega) ?_
        refine sv_aload_n (i := 0) dX4_load_107 rfl rfl ?_
        refine sv_getR (kz := 0) flX4_10 dX4_load_108 rfl rfl hve.lt hve.k hve.r0 ?_
        refine sv_iload_n (i := 1) dX4_load_111 rfl rfl ?_
        refine sv_putI (kz := 1) flX4_117 dX4_load_112 (Or.inl rfl) rfl rfl hmo.lt hmo.k hki ?_
        refine sv_iload_n (i := 3) dX4_load_115 rfl rfl ?_
        refine sv_ireturn dX4_load_116 rfl ?_
        have ho2 : ∀ x, x ≠ q → x ≠ q + 1 → sv_u (sv_u f2 q 0 F) q 1 k x = f1 x := fun x x0 x1 => by rw [sv_u_ne x0, sv_u_ne x0, e1 x x1]
        have hq2 : f2 q = f1 q := e1 q (by omega)
        refine ⟨_, rfl, rfl, rfl, Or.inr (Or.inr ⟨hsn, hRk, hF, fun N hN x hx => ⟨(ho2 x (by have := hN.1; omega) (by have := hN.1; omega)).trans (hff1 N hN x hx).1, (hff1 N hN x hx).2⟩, fun m' hm' => ?_⟩)⟩
        obtain ⟨t1, t2, t3, t4, t5, t6⟩ := hm'
        rw [← hF] at t2 t6
        refine sv_NX.of hve hmo hre hsc hh1 hV2 hpv1 hpw1 hku (by rw [hsc1, u2]) (htx1.trans u3) hpm1 hff1 hp (fun x x0 _ _ _ _ _ => ho2 x (by omega) (by omega)) (sv_V1.game hmo hmv1 hw (fun x x0 x1 => ho2 x (by omega) (by omega)) t1 ?_ ?_ ?_ ?_ (fun j j0 j1 => ?_) ?_ ?_)
        · rw [t2]; simp [sv_u]
        · rw [t3]; simp [sv_u]
        · simp [sv_u, hq2]
        · simp [sv_u, hq2]
        · rw [t2] at j1
          rw [t6 j j0 j1, sv_u_ne (by omega), sv_u_ne (by omega), e2 j j0 j1, s2]
        · rw [t4, ho2 _ (by omega) (by omega)]; exact hmv1.lim
        · rw [t5, ho2 _ (by omega) (by omega)]; exact hmv1.ris
      refine sv_aload_n (i := 0) dX4_load_48 rfl rfl ?_
      refine sv_getR (kz := 0) flX4_10 dX4_load_49 rfl rfl hve.lt hve.k hve.r0 ?_
      refine sv_getR (kz := 6) flX4_89 dX4_load_52 rfl rfl hmo.lt hmo.k hmo.r3 ?_
      refine sv_iload_n (i := 2) dX4_load_55 rfl rfl ?_
      refine sv_aald (t := 0) (n := 20) dX4_load_56 hmo.l3 (by decide) hmo.s3 (by omega) (hmo.e (p := sp_slot m k) (by omega) (by omega)) ?_
      refine sv_getI (kz := 1) flX4_98 dX4_load_57 rfl rfl hk.lt hk.k ?_
      rw [hkv1.form]
      refine sv_istore_n (i := 3) dX4_load_60 rfl (by decide) rfl ?_
      refine sv_aload_n (i := 0) dX4_load_61 rfl rfl ?_
      refine sv_getR (kz := 0) flX4_10 dX4_load_62 rfl rfl hve.lt hve.k hve.r0 ?_
      refine sv_getR (kz := 5) flX4_130 dX4_load_65 rfl rfl hmo.lt hmo.k hmo.r2 ?_
      refine sv_iconst dX4_load_68 ?_
      refine sv_iald dX4_load_69 hmo.l2 hmo.s2 (by omega) ?_
      rw [hmv1.ris]
      refine sv_iconst dX4_load_70 ?_
      refine sv_icmp_ne (tgt := 86) dX4_load_71 (by decide) (by have := hg.r; omega) (by decide) (fun h_71 => ?_) (fun h_71 => ?_)
      · exact lp _ (by unfold sp_lform; first | rw [if_pos (by assumption)] | rw [if_neg (by assumption)])
      · refine sv_iload_n (i := 3) dX4_load_74 rfl rfl ?_
        refine sv_aload_n (i := 0) dX4_load_75 rfl rfl ?_
        refine sv_getR (kz := 0) flX4_10 dX4_load_76 rfl rfl hve.lt hve.k hve.r0 ?_
        refine sv_getI (kz := 0) flX4_54 dX4_load_79 rfl rfl hmo.lt hmo.k ?_
        rw [hmv1.form]
        refine sv_max (List.mem_of_getElem? (i := 264) (by decide +kernel)) sv_maxw (Nat.le_of_ble_eq_true rfl) (by decide) (by decide) (by unfold sv_in; omega) (by unfold sv_in; omega) dX4_load_82 ?_
        refine sv_istore_n (i := 3) dX4_load_85 rfl (by decide) rfl ?_
        exact lp _ (by unfold sp_lform; first | rw [if_pos (by assumption)] | rw [if_neg (by assumption)])
    · refine sv_bipush dX4_load_41 (by decide) ?_
      refine sv_ireturn dX4_load_43 rfl ?_
      exact ⟨_, rfl, rfl, rfl, Or.inr (Or.inl ⟨hsn, by assumption, rfl, hun, rfl⟩)⟩
  · refine sv_bipush dX4_load_14 (by decide) ?_
    refine sv_ireturn dX4_load_16 rfl ?_
    exact ⟨_, rfl, rfl, rfl, Or.inl ⟨by assumption, rfl, rfl, rfl⟩⟩
