set_option maxRecDepth 100000 in
set_option maxHeartbeats 4000000 in
theorem c_X4_play {X : sv_X} {S : sv_S} {f : sv_F} {r : sv_R} {g : sv_G} {V q d fo rs fi se pa sc : Nat} {kp fd : Int → Nat} {m : Int → Int} (hve : sv_K4 S r V q d fi se pa sc) (hmo : sv_K1 S r q kp) (hmv : sv_V1 f q kp m) (hre : sv_K2 S r d fo rs fd) (hw : sp_wt m) {tx vs : Nat} (hsc : sv_K3 S r sc tx vs) (hp : sv_sep V q fi se sc tx vs rs fd) {mp : Int → Nat} {kq : Int → Int → Nat} {P : Int → Int → Int} {u : Int} (hh : sv_HI S r V q fi se sc tx vs rs fd pa mp kq) (hu : 0 ≤ u ∧ u ≤ 6) (hVu : f V 2 = u) (hpv : ∀ i, 0 ≤ i → i < u → sv_V1 f (mp i) (kq i) (P i)) (hpw : ∀ i, 0 ≤ i → i < u → sp_wt (P i) ∧ sp_wg (P i)) (hg : sp_wg m) (h10 : 0 ≤ f sc 1 ∧ f sc 1 ≤ 80) : sv_C X 8 MX4_play 0 0 [sv_r V] S f r g (sv_qk (fun a f' r' => ∃ (c : Nat) (φ : Int), sp_sc (f tx) (f sc 1) (6 + 2 * m 582 - 1) c φ ∧ ((φ ≠ -1 ∧ a = -2000 - φ ∧ (sv_NX S V q d fo rs fi se pa sc tx vs fd mp r f m u P f' r')) ∨ (φ = -1 ∧ a = c ∧ (sv_NX S V q d fo rs fi se pa sc tx vs fd mp r f (sp_run (f tx) (f sc 1) m c) (sp_ku u) (sp_kP m P u) f' r')))) S g) := by
  refine sv_met (by decide) (by simp [lg_sl, sv_cv, va_rf, Value.category]) ?_
  refine sv_fr fun hin => ?_
  have hcc := hw.c
  have hgf := hg.f
  have hVsc : V ≠ sc := hp.2.2.2.1.1
  have hVvs : V ≠ vs := hp.2.2.2.1.2.2.1
  have htsc : tx ≠ sc := Ne.symm hp.2.2.2.2.1.1
  have htvs : tx ≠ vs := hp.2.2.2.2.2.1.1
  have hscq := (hp.1 sc (by simp)).1
  have hvsq := (hp.1 vs (by simp)).1
  have hmval : ∀ j, 0 ≤ j → j ≤ 6 + 2 * m 582 - 1 → f (q + 1) j = m (583 + j) ∧ 0 ≤ m (583 + j) ∧ m (583 + j) ≤ 99 := fun j j0 j1 => ⟨hmv.val j0 (by omega), hg.v j j0 (by omega)⟩
  refine sv_aload_n (i := 0) dX4_play_0 rfl rfl ?_
  refine sv_getR (kz := 3) flX4_27 dX4_play_1 rfl rfl hve.lt hve.k hve.r3 ?_
  refine sv_aload_n (i := 0) dX4_play_4 rfl rfl ?_
  refine sv_getR (kz := 0) flX4_10 dX4_play_5 rfl rfl hve.lt hve.k hve.r0 ?_
  refine sv_getR (kz := 4) flX4_51 dX4_play_8 rfl rfl hmo.lt hmo.k hmo.r1 ?_
  refine sv_aload_n (i := 0) dX4_play_11 rfl rfl ?_
  refine sv_getR (kz := 0) flX4_10 dX4_play_12 rfl rfl hve.lt hve.k hve.r0 ?_
  refine sv_getI (kz := 0) flX4_54 dX4_play_15 rfl rfl hmo.lt hmo.k ?_
  rw [hmv.form]
  refine sv_sp0 (As := [_]) clX4_57 dX4_play_18 rfl (Nat.le_of_ble_eq_true rfl) (by decide) (by decide) (c_X4_sizeOf _) ?_
  have hrun := c_X3_run (X := X) (g := g) hsc ⟨hmo.l1, hmo.s1⟩ (by omega) (by omega) h10 (6 + 2 * m 582 - 1) (by omega) (m := m) hmval
  rw [show 6 + 2 * m 582 - 1 + 1 = 6 + 2 * m 582 by omega] at hrun
  refine sv_vi0 (As := [_, _]) clX4_61 dX4_play_21 ⟨_, rfl, rfl⟩ (by decide) rfl (Nat.le_of_ble_eq_true rfl) (by decide) (by decide) hsc.lt hsc.k hrun (fun a f0 hf0 => ?_)
  obtain ⟨c, φ, k1, k2, k3, k4⟩ := hf0
  have hv1 : sv_V1 f0 q kp m := sv_V1.congr hmo hcc hmv fun x x0 x1 => k2 x (by omega) (by omega)
  have hVu0 : f0 V 2 = u := by rw [k2 V hVsc hVvs]; exact hVu
  have hpv0 : ∀ i, 0 ≤ i → i < u → sv_V1 f0 (mp i) (kq i) (P i) := fun i i0 i1 => sv_V1.congr (hh.o i0 (by omega)) (hpw i i0 i1).1.c (hpv i i0 i1) fun x x0 x1 => by
    have z1 := hh.x i0 (by omega : i < 6) sc (by simp)
    have z2 := hh.x i0 (by omega : i < 6) vs (by simp)
    exact k2 x (by omega) (by omega)
  have s1 : f0 sc 1 = f sc 1 := k3 1 (by decide) (by decide) (by decide)
  have st : f0 tx = f tx := k2 tx htsc htvs
  have hai : sv_in a := by
    have hps := sp_ps_bd (t := f tx) (L := f sc 1) (hi := 6 + 2 * m 582 - 1) (c := c) h10.1 k1.1
    rcases k4 with ⟨z1, z2, z3⟩ | ⟨z1, z2, z3⟩
    · rcases k1.2 with ⟨y1, -⟩ | ⟨y1, y2, y3⟩
      · exact absurd y1 z1
      · have := sp_cf_bd (t := f tx) (L := f sc 1) (hi := 6 + 2 * m 582 - 1) (p := sp_ps (f tx) (f sc 1) c) (by omega) (by omega)
        unfold sv_in; omega
    · unfold sv_in; omega
  refine sv_istore_n (i := 1) dX4_play_24 rfl (by decide) rfl ?_
  refine sv_iload_n (i := 1) dX4_play_25 rfl rfl ?_
  refine sv_if_lt (tgt := 54) dX4_play_26 (by decide) hai (fun h_26 => ?_) (fun h_26 => ?_)
  · refine sv_iload_n (i := 1) dX4_play_54 rfl rfl ?_
    refine sv_ireturn dX4_play_55 rfl ?_
    rcases k4 with ⟨z1, z2, z3⟩ | ⟨z1, z2, z3⟩
    · first
      | (exfalso; omega)
      | (refine ⟨_, rfl, rfl, rfl, c, φ, k1, Or.inl ⟨z1, z3, ?_⟩⟩
         exact sv_NX.of hve hmo hre hsc hh hVu0 hpv0 hpw hu.2 s1 st (fun j j0 j1 => ⟨j, j0, j1, rfl⟩) (fun N hN x hx => ⟨k2 x (by have := hN.1; omega) (by have := hN.1; omega), fun _ => rfl⟩) hp (fun _ _ _ _ _ _ _ => rfl) hv1)
    · first
      | (exfalso; omega)
      | (refine ⟨_, rfl, rfl, rfl, c, φ, k1, Or.inr ⟨z1, z2, ?_⟩⟩
         have hro := sp_run_ok (t := f tx) (L := f sc 1) (hi := 6 + 2 * m 582 - 1) (m := m) (c := c) h10.1 (by omega) (fun j j0 j1 => (hmval j j0 j1).2) k1.1
         have hcn : ∀ x, x ≠ q + 1 → sv_cp f1 (q + 1) vs 12 x = f1 x := fun x hx => by funext y; simp [sv_cp, hx]
         refine sv_NX.of hve hmo hre hsc hh1 hV2 hpv1 hpw1 hku (by rw [hsc1, s1]) (htx1.trans st) hpm1 hff1 hp (fun x x0 _ _ _ _ _ => hcn x (by omega)) (sv_V1.game hmo hmv1 hw (fun x x0 x1 => hcn x (by omega)) (fun j j0 j1 => hro.2 j (by omega)) ?_ ?_ ?_ ?_ (fun j j0 j1 => ?_) ?_ ?_)
         · rw [hcn q (by omega), hro.2 582 (by omega)]; exact hmv1.form
         · rw [hcn q (by omega), hro.2 595 (by omega)]; exact hmv1.orig
         · rw [hcn q (by omega)]
         · rw [hcn q (by omega)]
         · rw [hro.2 582 (by omega)] at j1
           rw [← z3 j j0 (by omega), ← hvs1]; simp [sv_cp]; omega
         · rw [hcn _ (by omega), hro.2 596 (by omega)]; exact hmv1.lim
         · rw [hcn _ (by omega), hro.2 597 (by omega)]; exact hmv1.ris)
  · refine sv_aload_n (i := 0) dX4_play_29 rfl rfl ?_
    refine sv_vh0 (As := []) clX4_65 dX4_play_30 ⟨_, rfl, rfl⟩ (by decide) rfl (Nat.le_of_ble_eq_true rfl) (by decide) (by decide) hve.lt hve.k (c_X4_remember hve hmo hv1 hre hw hsc hp hh hu hVu0 hpv0 hpw hg) (fun f1 r1 hrm => ?_)
    obtain ⟨mp1, kq1, hh1, hrk, hV2, hhk, hpv1, hpm1⟩ := hrm
    have hve := hve.rk hrk
    have hmo := hmo.rk hrk
    have hre := hre.rk hrk
    have hsc := hsc.rk hrk
    have hVx := (hp.1 V (by simp)).1
    have hmv1 : sv_V1 f1 q kp m := sv_V1.congr hmo hcc hv1 fun x x0 x1 => hh1.of hhk (by omega) (Or.inl ⟨x0, x1⟩)
    have hsc1 : f1 sc = f0 sc := hh1.of hhk (Ne.symm hp.2.2.2.1.1) (by simp)
    have htx1 : f1 tx = f0 tx := hh1.of hhk (Ne.symm hp.2.2.2.1.2.1) (by simp)
    have hpw1 := sp_kP_w hw hg hu hpw
    have hku : sp_ku u ≤ 6 := by unfold sp_ku; split <;> omega
    have hff1 : ∀ N, sv_bd N V q fi se sc tx vs rs pa fd mp → ∀ x, N ≤ x → f1 x = f x ∧ ((S.2 x).1 ≠ 9 → r1 x = r x) := fun N hN x hx => ⟨by
      rw [hhk.2 x (by have := hN.1; omega) (fun i i0 i1 => by obtain ⟨j, j0, j1, j2⟩ := hpm1 i i0 i1; have := hN.2.2 j j0 j1; omega)]
      exact k2 x (by have := hN.1; omega) (by have := hN.1; omega), hrk x⟩
    have hvs1 : f1 vs = f0 vs := hh1.of hhk (Ne.symm hp.2.2.2.1.2.2.1) (by simp)
    refine sv_aload_n (i := 0) dX4_play_33 rfl rfl ?_
    refine sv_getR (kz := 3) flX4_27 dX4_play_34 rfl rfl hve.lt hve.k hve.r3 ?_
    refine sv_getR (kz := 2) flX4_68 dX4_play_37 rfl rfl hsc.lt hsc.k hsc.r2 ?_
    refine sv_iconst dX4_play_40 ?_
    refine sv_aload_n (i := 0) dX4_play_41 rfl rfl ?_
    refine sv_getR (kz := 0) flX4_10 dX4_play_42 rfl rfl hve.lt hve.k hve.r0 ?_
    refine sv_getR (kz := 4) flX4_51 dX4_play_45 rfl rfl hmo.lt hmo.k hmo.r1 ?_
    refine sv_iconst dX4_play_48 ?_
    refine sv_bipush dX4_play_49 (by decide) ?_
    refine sv_copy (List.mem_of_getElem? (i := 271) (by decide +kernel)) sv_copyw hsc.l2 hsc.s2 hmo.l1 hmo.s1 (by decide) (Nat.le_of_ble_eq_true rfl) (by decide) dX4_play_51 ?_
    refine sv_iload_n (i := 1) dX4_play_54 rfl rfl ?_
    refine sv_ireturn dX4_play_55 rfl ?_
    rcases k4 with ⟨z1, z2, z3⟩ | ⟨z1, z2, z3⟩
    · first
      | (exfalso; omega)
      | (refine ⟨_, rfl, rfl, rfl, c, φ, k1, Or.inl ⟨z1, z3, ?_⟩⟩
         exact sv_NX.of hve hmo hre hsc hh hVu0 hpv0 hpw hu.2 s1 st (fun j j0 j1 => ⟨j, j0, j1, rfl⟩) (fun N hN x hx => ⟨k2 x (by have := hN.1; omega) (by have := hN.1; omega), fun _ => rfl⟩) hp (fun _ _ _ _ _ _ _ => rfl) hv1)
    · first
      | (exfalso; omega)
      | (refine ⟨_, rfl, rfl, rfl, c, φ, k1, Or.inr ⟨z1, z2, ?_⟩⟩
         have hro := sp_run_ok (t := f tx) (L := f sc 1) (hi := 6 + 2 * m 582 - 1) (m := m) (c := c) h10.1 (by omega) (fun j j0 j1 => (hmval j j0 j1).2) k1.1
         have hcn : ∀ x, x ≠ q + 1 → sv_cp f1 (q + 1) vs 12 x = f1 x := fun x hx => by funext y; simp [sv_cp, hx]
         refine sv_NX.of hve hmo hre hsc hh1 hV2 hpv1 hpw1 hku (by rw [hsc1, s1]) (htx1.trans st) hpm1 hff1 hp (fun x x0 _ _ _ _ _ => hcn x (by omega)) (sv_V1.game hmo hmv1 hw (fun x x0 x1 => hcn x (by omega)) (fun j j0 j1 => hro.2 j (by omega)) ?_ ?_ ?_ ?_ (fun j j0 j1 => ?_) ?_ ?_)
         · rw [hcn q (by omega), hro.2 582 (by omega)]; exact hmv1.form
         · rw [hcn q (by omega), hro.2 595 (by omega)]; exact hmv1.orig
         · rw [hcn q (by omega)]
         · rw [hcn q (by omega)]
         · rw [hro.2 582 (by omega)] at j1
           rw [← z3 j j0 (by omega), ← hvs1]; simp [sv_cp]; omega
         · rw [hcn _ (by omega), hro.2 596 (by omega)]; exact hmv1.lim
         · rw [hcn _ (by omega), hro.2 597 (by omega)]; exact hmv1.ris)
