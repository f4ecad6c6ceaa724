set_option maxRecDepth 100000 in
set_option maxHeartbeats 4000000 in
theorem c_X4_pack {X : sv_X} {S : sv_S} {f : sv_F} {r : sv_R} {g : sv_G} {V q d fo rs fi se pa sc : Nat} {kp fd : Int → Nat} {m : Int → Int} (hve : sv_K4 S r V q d fi se pa sc) (hmo : sv_K1 S r q kp) (hmv : sv_V1 f q kp m) (hre : sv_K2 S r d fo rs fd) (hw : sp_wt m) {tx vs : Nat} (hsc : sv_K3 S r sc tx vs) (hp : sv_sep V q fi se sc tx vs rs fd) {mp : Int → Nat} {kq : Int → Int → Nat} {P : Int → Int → Int} {u : Int} (hh : sv_HI S r V q fi se sc tx vs rs fd pa mp kq) (hu : 0 ≤ u ∧ u ≤ 6) (hVu : f V 2 = u) (hpv : ∀ i, 0 ≤ i → i < u → sv_V1 f (mp i) (kq i) (P i)) (hpw : ∀ i, 0 ≤ i → i < u → sp_wt (P i) ∧ sp_wg (P i)) (hg : sp_wg m)  : sv_C X 5 MX4_pack 0 0 [sv_r V] S f r g (sv_qk (fun a f' r' => a = sp_wes m - sp_wes (sp_pack m) ∧ (sv_NX S V q d fo rs fi se pa sc tx vs fd mp r f (sp_pack m) (sp_ku u) (sp_kP m P u) f' r')) S g) := by
  refine sv_met (by decide) (by simp [lg_sl, sv_cv, va_rf, Value.category]) ?_
  refine sv_fr fun hin => ?_
  have hcc := hw.c
  have hgf := hg.f
  refine sv_aload_n (i := 0) dX4_pack_0 rfl rfl ?_
  refine sv_getR (kz := 4) flX4_34 dX4_pack_1 rfl rfl hve.lt hve.k hve.r4 ?_
  refine sv_aload_n (i := 0) dX4_pack_4 rfl rfl ?_
  refine sv_getR (kz := 0) flX4_10 dX4_pack_5 rfl rfl hve.lt hve.k hve.r0 ?_
  refine sv_vv0 (As := [_]) clX4_85 dX4_pack_8 ⟨_, rfl, rfl⟩ (by decide) rfl (Nat.le_of_ble_eq_true rfl) (by decide) (by decide) hre.lt hre.k (c_X2_readAll hmo hmv hre hp.2.2.1 hw hp.2.1) (fun f0 hf0 => ?_)
  obtain ⟨hr1, hv2⟩ := hf0
  have hun : sv_un rs fi se fd f f0 := fun x a b _ _ => hr1 x a b
  have hv1 : sv_V1 f0 q kp m := sv_V1.congr hmo hcc hmv fun x x0 x1 => hr1 x (by have := hp.2.1; omega) fun p p0 p1 => by have := hp.2.2.1 p p0 p1; omega
  obtain ⟨u1, u2, u3, u4⟩ := hp.un hun
  have hVrs : V ≠ rs := (hp.1 V (by simp)).2.1
  have hVfd : ∀ p, 0 ≤ p → p < 20 → V ≠ fd p := (hp.1 V (by simp)).2.2
  have hVu0 : f0 V 2 = u := by rw [u1]; exact hVu
  have hpv0 : ∀ i, 0 ≤ i → i < u → sv_V1 f0 (mp i) (kq i) (P i) := fun i i0 i1 => sv_V1.congr (hh.o i0 (by omega)) (hpw i i0 i1).1.c (hpv i i0 i1) fun x x0 x1 => hr1 x (by have := hh.x i0 (by omega : i < 6) rs (by simp); omega) fun p p0 p1 => by have := hh.p i0 (by omega : i < 6) p p0 p1; omega
  refine sv_aload_n (i := 0) dX4_pack_11 rfl rfl ?_
  refine sv_vh0 (As := []) clX4_65 dX4_pack_12 ⟨_, rfl, rfl⟩ (by decide) rfl (Nat.le_of_ble_eq_true rfl) (by decide) (by decide) hve.lt hve.k (c_X4_remember hve hmo hv1 hre hw hsc hp hh hu hVu0 hpv0 hpw hg) (fun f1 r1 hrm => ?_)
  obtain ⟨mp1, kq1, hh1, hrk, hV2, hhk, hpv1, hpm1⟩ := hrm
  have hve := hve.rk hrk
  have hmo := hmo.rk hrk
  have hre := hre.rk hrk
  have hsc := hsc.rk hrk
  have hVx := (hp.1 V (by simp)).1
  have hmv1 : sv_V1 f1 q kp m := sv_V1.congr hmo hcc hv1 fun x x0 x1 => hh1.of hhk (by omega) (Or.inl ⟨x0, x1⟩)
  have hsc1 : f1 sc = f0 sc := hh1.of hhk (Ne.symm hp.2.2.2.1.1) (by simp)
  have htx1 : f1 tx = f0 tx := hh1.of hhk (Ne.symm hp.2.2.2.1.2.1) (by simp)
  have hpw1 := sp_kP_w hw hg hu hpw
  have hku : sp_ku u ≤ 6 := by unfold sp_ku; split <;> omega
  have hff1 : ∀ N, sv_bd N V q fi se sc tx vs rs pa fd mp → ∀ x, N ≤ x → f1 x = f x ∧ ((S.2 x).1 ≠ 9 → r1 x = r x) := fun N hN x hx => ⟨by
    rw [hhk.2 x (by have := hN.1; omega) (fun i i0 i1 => by obtain ⟨j, j0, j1, j2⟩ := hpm1 i i0 i1; have := hN.2.2 j j0 j1; omega)]
    exact hr1 x (by have := hN.1; omega) (fun p p0 p1 => by have := hN.2.1 p p0 p1; omega), hrk x⟩
  have hv2b : sv_V2 f1 rs fd m (m 580) := sv_V2.congr hcc (hh1.of hhk (Ne.symm hVrs) (by simp)) (fun p p0 p1 => hh1.of hhk (Ne.symm (hVfd p p0 p1)) (by right; right; right; right; right; right; right; exact ⟨p, p0, p1, rfl⟩)) hv2
  have lp : ∀ (kk : Nat) (i : Nat) (f2 : sv_F), m 580 - (i : Int) < (kk : Int) → ((i : Int) ≤ m 580) → (∀ x, (x < q ∨ q + 64 ≤ x) → x ≠ fi → f2 x = f1 x) → (sv_V1 f2 q kp (sp_pki m i)) → sv_T X (sv_rm 5 0 0) MX4_pack (sv_Zm X 0 0 (sv_qk (fun a f' r' => a = sp_wes m - sp_wes (sp_pack m) ∧ (sv_NX S V q d fo rs fi se pa sc tx vs fd mp r f (sp_pack m) (sp_ku u) (sp_kP m P u) f' r')) S g)) 0 0 25 [some (sv_r V), some (sv_i (sp_wes m)), some (sv_i (i : Nat))] [] S (f2) r1 g := by
    intro kk
    induction kk with
    | zero =>
      intro i f2 hkk h1 h3 hv2g
      exact absurd hkk (by omega)
    | succ kk ih =>
      intro i f2 hkk h1 h3 hv2g
      obtain ⟨hrp, hrest⟩ := sp_pki_rp hw i h1
      have hfirs := (hp.1 fi (by simp)).2.1
      have hrsq := hp.2.1
      have hv2d : sv_V2 f2 rs fd m (m 580) := sv_V2.congr hcc (h3 _ hrsq (Ne.symm hfirs)) (fun p p0 p1 => h3 _ (hp.2.2.1 p p0 p1) (Ne.symm ((hp.1 fi (by simp)).2.2 p p0 p1))) hv2b
      refine sv_iload_n (i := 2) dX4_pack_25 rfl rfl ?_
      refine sv_aload_n (i := 0) dX4_pack_26 rfl rfl ?_
      refine sv_getR (kz := 0) flX4_10 dX4_pack_27 rfl rfl hve.lt hve.k hve.r0 ?_
      refine sv_getI (kz := 3) flX4_79 dX4_pack_30 rfl rfl hmo.lt hmo.k ?_
      rw [hv2g.size, hrp.c]
      refine sv_icmp_ge (tgt := 60) dX4_pack_33 (by decide) (by unfold sv_in; omega) (by unfold sv_in; omega) (fun h_33 => ?_) (fun h_33 => ?_)
      · refine sv_iload_n (i := 1) dX4_pack_60 rfl rfl ?_
        refine sv_aload_n (i := 0) dX4_pack_61 rfl rfl ?_
        refine sv_getR (kz := 0) flX4_10 dX4_pack_62 rfl rfl hve.lt hve.k hve.r0 ?_
        refine sv_vp0 (As := []) clX4_151 dX4_pack_65 ⟨_, rfl, rfl⟩ (by decide) rfl (Nat.le_of_ble_eq_true rfl) (by decide) (by decide) hmo.lt hmo.k (c_X1_weight hmo hv2g (by rw [hrp.c]; exact hcc)) ?_
        refine sv_isub dX4_pack_68 ?_
        refine sv_ireturn dX4_pack_69 rfl ?_
        have hpk : sp_pack m = sp_pki m i := by unfold sp_pack; rw [show (m 580).toNat = i by omega]
        rw [← hpk] at hv2g
        refine ⟨_, rfl, rfl, rfl, by rw [hpk], ?_⟩
        exact sv_NX.of hve hmo hre hsc hh1 hV2 hpv1 hpw1 hku (by rw [hsc1, u2]) (htx1.trans u3) hpm1 hff1 hp (fun x x0 x1 _ _ _ _ => h3 x x0 x1) hv2g
      · obtain ⟨w1, w2⟩ := hv2d (i : Int) (by omega) (by omega)
        have hri := sp_R_in hw (n := m (29 * (i : Int)))
        refine sv_aload_n (i := 0) dX4_pack_36 rfl rfl ?_
        refine sv_getR (kz := 4) flX4_34 dX4_pack_37 rfl rfl hve.lt hve.k hve.r4 ?_
        refine sv_getR (kz := 1) flX4_127 dX4_pack_40 rfl rfl hre.lt hre.k hre.r2 ?_
        refine sv_iload_n (i := 2) dX4_pack_43 rfl rfl ?_
        refine sv_iald dX4_pack_44 hre.l2 hre.s2 (by omega) ?_
        rw [w1]
        refine sv_iconst dX4_pack_45 ?_
        refine sv_icmp_ne (tgt := 54) dX4_pack_46 (by decide) (by unfold sv_in; omega) (by decide) (fun h_46 => ?_) (fun h_46 => ?_)
        · refine sv_iinc dX4_pack_54 rfl (by decide) rfl ?_
          refine sv_goto (tgt := 25) dX4_pack_57 (by decide) ?_
          first
          | exact sv_cast (ih (i + 1) f3 (by omega) (by omega) (fun x x0 x1 => by rw [hf3.2 x (by omega) x1]; exact h3 x x0 x1) hf3.1) rfl rfl rfl rfl rfl rfl
          | (have hst : sp_pki m (i + 1) = sp_pki m i := by
               show sp_pkf m (sp_pki m i) i = _
               unfold sp_pkf; rw [if_pos (by assumption)]
             exact sv_cast (ih (i + 1) f2 (by omega) (by omega) h3 (by rw [hst]; exact hv2g)) rfl rfl rfl rfl rfl rfl)
        · have hRi : sp_R m (m (29 * (i : Int))) = -1 := by assumption
          refine sv_aload_n (i := 0) dX4_pack_49 rfl rfl ?_
          refine sv_iload_n (i := 2) dX4_pack_50 rfl rfl ?_
          refine sv_vv0 (As := [_]) clX4_154 dX4_pack_51 ⟨_, rfl, rfl⟩ (by decide) rfl (Nat.le_of_ble_eq_true rfl) (by decide) (by decide) hve.lt hve.k (c_X4_packPlace hve hmo hv2g hre hw hrp hv2d hp hgf (i : Int) (by omega) hrest hRi hg.l) (fun f3 hf3 => ?_)
          refine sv_iinc dX4_pack_54 rfl (by decide) rfl ?_
          refine sv_goto (tgt := 25) dX4_pack_57 (by decide) ?_
          first
          | exact sv_cast (ih (i + 1) f3 (by omega) (by omega) (fun x x0 x1 => by rw [hf3.2 x (by omega) x1]; exact h3 x x0 x1) hf3.1) rfl rfl rfl rfl rfl rfl
          | (have hst : sp_pki m (i + 1) = sp_pki m i := by
               show sp_pkf m (sp_pki m i) i = _
               unfold sp_pkf; rw [if_pos (by assumption)]
             exact sv_cast (ih (i + 1) f2 (by omega) (by omega) h3 (by rw [hst]; exact hv2g)) rfl rfl rfl rfl rfl rfl)
  refine sv_aload_n (i := 0) dX4_pack_15 rfl rfl ?_
  refine sv_getR (kz := 0) flX4_10 dX4_pack_16 rfl rfl hve.lt hve.k hve.r0 ?_
  refine sv_vp0 (As := []) clX4_151 dX4_pack_19 ⟨_, rfl, rfl⟩ (by decide) rfl (Nat.le_of_ble_eq_true rfl) (by decide) (by decide) hmo.lt hmo.k (c_X1_weight hmo hmv1 hcc) ?_
  refine sv_istore_n (i := 1) dX4_pack_22 rfl (by decide) rfl ?_
  refine sv_iconst dX4_pack_23 ?_
  refine sv_istore_n (i := 2) dX4_pack_24 rfl (by decide) rfl ?_
  exact lp (m 580 + 1).toNat 0 f1 (by omega) (by omega) (fun _ _ _ => rfl) hmv1
