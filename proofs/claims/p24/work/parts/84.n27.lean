section SVCG
variable {S : sv_S} {r r' : sv_R} {V q d fo fi se sc tx vs rs pa : Nat} {fd mp : Int → Nat} {kq : Int → Int → Nat}
theorem sv_K4.cg (h : sv_K4 S r V q d fi se pa sc) (hr : r' V = r V) : sv_K4 S r' V q d fi se pa sc := by
  unfold sv_K4 at h ⊢; rw [hr]; exact h
theorem sv_K3.cg (h : sv_K3 S r sc tx vs) (hr : r' sc = r sc) : sv_K3 S r' sc tx vs := by
  unfold sv_K3 at h ⊢; rw [hr]; exact h
theorem sv_K2.cg (h : sv_K2 S r d fo rs fd) (hr : r' d = r d) (hr2 : r' fo = r fo) : sv_K2 S r' d fo rs fd := by
  unfold sv_K2 at h ⊢; rw [hr, hr2]; exact h
theorem sv_HI.cg (h : sv_HI S r V q fi se sc tx vs rs fd pa mp kq) (hp : r' pa = r pa) (hr : ∀ x, (x < q ∨ q + 64 ≤ x) → r' x = r x) : sv_HI S r' V q fi se sc tx vs rs fd pa mp kq := by
  refine ⟨fun i a b => ?_, h.2⟩
  have hg := h.g a b
  exact ⟨by rw [hp]; exact h.e a b, (h.o a b).cg fun x x0 x1 => hr x (by omega), hg, h.x a b, h.p a b⟩
theorem sv_V1.rm {f f' : sv_F} {kp : Int → Nat} {mm : Int → Int} {s c x : Int} (hmo : sv_K1 S r q kp) (hmv : sv_V1 f q kp mm) (hw : sp_wt mm) (hf3 : mm 582 ≤ 3) (hs : 0 ≤ s ∧ s < c) (hc : mm 580 = c) (h0 : ∀ j, j ≠ 1 → j ≠ 3 → f' q j = f q j) (h3 : f' q 3 = c - 1) (h1 : f' q 1 = if mm 595 = x then -1 else mm 595) (hz : ∀ z, z ≠ q → f' z = f z) : sv_V1 f' q (sp_rmk kp s c) (sp_sh mm s c x) := by
  have hcc := hw.c
  have g : ∀ j, 580 < j → j < 598 → j ≠ 595 → sp_sh mm s c x j = mm j := fun j a b e => by
    unfold sp_sh; rw [if_neg e, if_neg (by omega), if_neg (by omega)]
  refine ⟨?_, ?_, ?_, ?_, fun j j0 j1 => ?_, ?_, ?_, fun t t0 t1 => ?_⟩
  · rw [g _ (by omega) (by omega) (by omega), h0 _ (by omega) (by omega)]; exact hmv.form
  · rw [h1]; unfold sp_sh; rw [if_pos rfl]
  · rw [g _ (by omega) (by omega) (by omega), h0 _ (by omega) (by omega)]; exact hmv.came
  · rw [h3]; unfold sp_sh; rw [if_neg (by omega), if_pos rfl]
  · rw [g 582 (by omega) (by omega) (by omega)] at j1
    rw [g _ (by omega) (by omega) (by omega), hz _ (by omega)]; exact hmv.val j0 j1
  · rw [g _ (by omega) (by omega) (by omega), hz _ (by omega)]; exact hmv.lim
  · rw [g _ (by omega) (by omega) (by omega), hz _ (by omega)]; exact hmv.ris
  · have ec : sp_sh mm s c x 580 = c - 1 := by unfold sp_sh; rw [if_neg (by omega), if_pos rfl]
    rw [ec] at t1
    unfold sp_rmk
    by_cases e : t < s
    · rw [if_pos e]
      have hb := hmo.b (p := t) t0 (by omega)
      exact ((hmv.o t0 (by omega)).congr (hz _ (by omega)) (hz _ (by omega)) (hz _ (by omega))).ext (hw.many t0 (by omega)) fun j j0 j1 => by
        unfold sp_sh; rw [if_neg (by omega), if_neg (by omega), if_neg (by omega)]
    · rw [if_neg e, if_pos t1]
      have hb := hmo.b (p := t + 1) (by omega) (by omega)
      have hv := (hmv.o (s := t + 1) (by omega) (by omega)).congr (hz _ (by omega)) (hz _ (by omega)) (hz _ (by omega))
      have hmy := hw.many (s := t + 1) (by omega) (by omega)
      have e9 : ∀ j, 0 ≤ j → j < 29 → sp_sh mm s c x (29 * t + j) = mm (29 * (t + 1) + j) := fun j j0 j1 => by
        unfold sp_sh; rw [if_neg (by omega), if_neg (by omega), if_pos (by omega)]
        exact congrArg mm (by omega)
      have e8 := e9 0 (by omega) (by omega)
      rw [Int.add_zero, Int.add_zero] at e8
      refine ⟨by rw [e8]; exact hv.num, by rw [e9 _ (by omega) (by omega)]; exact hv.form, by rw [e9 _ (by omega) (by omega)]; exact hv.sum, by rw [e9 _ (by omega) (by omega)]; exact hv.base, by rw [e9 _ (by omega) (by omega)]; exact hv.size, fun j j0 j1 => ?_⟩
      rw [e9 _ (by omega) (by omega)] at j1
      rw [e9 _ (by omega) (by omega), e9 _ (by omega) (by omega)]
      exact ⟨hv.idx j0 j1, hv.val j0 j1⟩
end SVCG
set_option maxRecDepth 100000 in
set_option maxHeartbeats 4000000 in
theorem c_X4_drop {X : sv_X} {S : sv_S} {f : sv_F} {r : sv_R} {g : sv_G} {V q d fo rs fi se pa sc : Nat} {kp fd : Int → Nat} {m : Int → Int} (hve : sv_K4 S r V q d fi se pa sc) (hmo : sv_K1 S r q kp) (hmv : sv_V1 f q kp m) (hre : sv_K2 S r d fo rs fd) (hw : sp_wt m) {tx vs : Nat} (hsc : sv_K3 S r sc tx vs) (hp : sv_sep V q fi se sc tx vs rs fd) {mp : Int → Nat} {kq : Int → Int → Nat} {P : Int → Int → Int} {u : Int} (hh : sv_HI S r V q fi se sc tx vs rs fd pa mp kq) (hu : 0 ≤ u ∧ u ≤ 6) (hVu : f V 2 = u) (hpv : ∀ i, 0 ≤ i → i < u → sv_V1 f (mp i) (kq i) (P i)) (hpw : ∀ i, 0 ≤ i → i < u → sp_wt (P i) ∧ sp_wg (P i)) (hg : sp_wg m) (k md : Int) (hki : sv_in k) (hmd : md = 0 ∨ md = 1) : sv_C X 4 MX4_drop 0 0 [sv_r V, sv_i k, sv_i md] S f r g (sv_qk (fun a f' r' => (sp_slot m k = -1 ∧ a = -2 ∧ f' = f ∧ r' = r) ∨ (sp_slot m k ≠ -1 ∧ a = sp_bo (sp_drop m k md) k ∧ (sv_NX S V q d fo rs fi se pa sc tx vs fd mp r f (sp_drop m k md) (sp_ku u) (sp_kP m P u) f' r'))) S g) := by
  refine sv_met (by decide) (by simp [lg_sl, sv_cv, va_rf, Value.category]) ?_
  refine sv_fr fun hin => ?_
  have hcc := hw.c
  have hgf := hg.f
  refine sv_aload_n (i := 0) dX4_drop_0 rfl rfl ?_
  refine sv_getR (kz := 0) flX4_10 dX4_drop_1 rfl rfl hve.lt hve.k hve.r0 ?_
  refine sv_iload_n (i := 1) dX4_drop_4 rfl rfl ?_
  refine sv_vp0 (As := [_]) clX4_124 dX4_drop_5 ⟨_, rfl, rfl⟩ (by decide) rfl (Nat.le_of_ble_eq_true rfl) (by decide) (by decide) hmo.lt hmo.k (c_X1_placeOf hmo hmv hcc _ hki) ?_
  have hst := sp_slot_spec m k
  refine sv_istore_n (i := 3) dX4_drop_8 rfl (by decide) rfl ?_
  refine sv_iload_n (i := 3) dX4_drop_9 rfl rfl ?_
  refine sv_iconst dX4_drop_10 ?_
  refine sv_icmp_ne (tgt := 17) dX4_drop_11 (by decide) (by first | omega | exact hin _ _ | decide | (simp [sv_u, sv_row]; omega) | (simp [sv_u, sv_row]; exact hin _ _) | exact hin1 _ _ | (simp [sv_u, sv_row]; exact hin1 _ _)) (by first | omega | exact hin _ _ | decide | (simp [sv_u, sv_row]; omega) | (simp [sv_u, sv_row]; exact hin _ _) | exact hin1 _ _ | (simp [sv_u, sv_row]; exact hin1 _ _)) (fun h_11 => ?_) (fun h_11 => ?_)
  · have hsn : sp_slot m k ≠ -1 := by assumption
    obtain ⟨s0, s1, s2⟩ := sp_slot_in hsn
    refine sv_aload_n (i := 0) dX4_drop_17 rfl rfl ?_
    refine sv_getR (kz := 4) flX4_34 dX4_drop_18 rfl rfl hve.lt hve.k hve.r4 ?_
    refine sv_aload_n (i := 0) dX4_drop_21 rfl rfl ?_
    refine sv_getR (kz := 0) flX4_10 dX4_drop_22 rfl rfl hve.lt hve.k hve.r0 ?_
    refine sv_vv0 (As := [_]) clX4_85 dX4_drop_25 ⟨_, rfl, rfl⟩ (by decide) rfl (Nat.le_of_ble_eq_true rfl) (by decide) (by decide) hre.lt hre.k (c_X2_readAll hmo hmv hre hp.2.2.1 hw hp.2.1) (fun f0 hf0 => ?_)
    obtain ⟨hr1, hv2⟩ := hf0
    have hun : sv_un rs fi se fd f f0 := fun x a b _ _ => hr1 x a b
    have hv1 : sv_V1 f0 q kp m := sv_V1.congr hmo hcc hmv fun x x0 x1 => hr1 x (by have := hp.2.1; omega) fun p p0 p1 => by have := hp.2.2.1 p p0 p1; omega
    obtain ⟨u1, u2, u3, u4⟩ := hp.un hun
    have hVrs : V ≠ rs := (hp.1 V (by simp)).2.1
    have hVfd : ∀ p, 0 ≤ p → p < 20 → V ≠ fd p := (hp.1 V (by simp)).2.2
    have hVu0 : f0 V 2 = u := by rw [u1]; exact hVu
    have hpv0 : ∀ i, 0 ≤ i → i < u → sv_V1 f0 (mp i) (kq i) (P i) := fun i i0 i1 => sv_V1.congr (hh.o i0 (by omega)) (hpw i i0 i1).1.c (hpv i i0 i1) fun x x0 x1 => hr1 x (by have := hh.x i0 (by omega : i < 6) rs (by simp); omega) fun p p0 p1 => by have := hh.p i0 (by omega : i < 6) p p0 p1; omega
    refine sv_aload_n (i := 0) dX4_drop_28 rfl rfl ?_
    refine sv_vh0 (As := []) clX4_65 dX4_drop_29 ⟨_, rfl, rfl⟩ (by decide) rfl (Nat.le_of_ble_eq_true rfl) (by decide) (by decide) hve.lt hve.k (c_X4_remember hve hmo hv1 hre hw hsc hp hh hu hVu0 hpv0 hpw hg) (fun f1 r1 hrm => ?_)
    obtain ⟨mp1, kq1, hh1, hrk, hV2, hhk, hpv1, hpm1⟩ := hrm
    have hve := hve.rk hrk
    have hmo := hmo.rk hrk
    have hre := hre.rk hrk
    have hsc := hsc.rk hrk
    have hVx := (hp.1 V (by simp)).1
    have hmv1 : sv_V1 f1 q kp m := sv_V1.congr hmo hcc hv1 fun x x0 x1 => hh1.of hhk (by omega) (Or.inl ⟨x0, x1⟩)
    have hsc1 : f1 sc = f0 sc := hh1.of hhk (Ne.symm hp.2.2.2.1.1) (by simp)
    have htx1 : f1 tx = f0 tx := hh1.of hhk (Ne.symm hp.2.2.2.1.2.1) (by simp)
    have hpw1 := sp_kP_w hw hg hu hpw
    have hku : sp_ku u ≤ 6 := by unfold sp_ku; split <;> omega
    have hff1 : ∀ N, sv_bd N V q fi se sc tx vs rs pa fd mp → ∀ x, N ≤ x → f1 x = f x ∧ ((S.2 x).1 ≠ 9 → r1 x = r x) := fun N hN x hx => ⟨by
      rw [hhk.2 x (by have := hN.1; omega) (fun i i0 i1 => by obtain ⟨j, j0, j1, j2⟩ := hpm1 i i0 i1; have := hN.2.2 j j0 j1; omega)]
      exact hr1 x (by have := hN.1; omega) (fun p p0 p1 => by have := hN.2.1 p p0 p1; omega), hrk x⟩
    have hv2b : sv_V2 f1 rs fd m (m 580) := sv_V2.congr hcc (hh1.of hhk (Ne.symm hVrs) (by simp)) (fun p p0 p1 => hh1.of hhk (Ne.symm (hVfd p p0 p1)) (by right; right; right; right; right; right; right; exact ⟨p, p0, p1, rfl⟩)) hv2
    refine sv_fr fun hin1 => ?_
    have lp41 : ∀ (f2 : sv_F) (mm : Int → Int), mm = (if md = 1 then sp_mdi m k (m 580).toNat else m) → sp_rp m mm → sv_V1 f2 q kp mm → (∀ z, (z < q + 4 ∨ q + 64 ≤ z) → f2 z = f1 z) → sv_T X (sv_rm 4 0 0) MX4_drop (sv_Zm X 0 0 (sv_qk (fun a f' r' => (sp_slot m k = -1 ∧ a = -2 ∧ f' = f ∧ r' = r) ∨ (sp_slot m k ≠ -1 ∧ a = sp_bo (sp_drop m k md) k ∧ (sv_NX S V q d fo rs fi se pa sc tx vs fd mp r f (sp_drop m k md) (sp_ku u) (sp_kP m P u) f' r'))) S g)) 0 0 41 [some (sv_r V), some (sv_i k), some (sv_i md), some (sv_i (sp_slot m k))] [] S (f2) r1 g := by
      intro f2 mm hmm hrp hmm2 ho2
      have hdr : sp_drop m k md = sp_sh mm (sp_slot m k) (m 580) k := by unfold sp_drop; rw [hmm]
      refine sv_aload_n (i := 0) dX4_drop_41 rfl rfl ?_
      refine sv_getR (kz := 0) flX4_10 dX4_drop_42 rfl rfl hve.lt hve.k hve.r0 ?_
      refine sv_iload_n (i := 3) dX4_drop_45 rfl rfl ?_
      refine sv_vh0 (As := [_]) clX4_143 dX4_drop_46 ⟨_, rfl, rfl⟩ (by decide) rfl (Nat.le_of_ble_eq_true rfl) (by decide) (by decide) hmo.lt hmo.k (c_X1_removePlace hmo (sp_slot m k) (m 580) ⟨s0, s1, hcc.2⟩ (by rw [hmm2.size, hrp.c])) (fun f3 r3 h3 => ?_)
      obtain ⟨hf3, hr3, hmo3⟩ := h3
      have hkV : V ≠ q + 3 := fun e => by have := hve.k; rw [e, hmo.s3] at this; simp at this
      have hksc : sc ≠ q + 3 := fun e => by have := hsc.k; rw [e, hmo.s3] at this; simp at this
      have hkd : d ≠ q + 3 := fun e => by have := hre.k; rw [e, hmo.s3] at this; simp at this
      have hkfo : fo ≠ q + 3 := fun e => by have := hre.s1; rw [e, hmo.s3] at this; simp at this
      have hkpa : pa ≠ q + 3 := fun e => by have := hve.s1; rw [e, hmo.s3] at this; simp at this
      have hve := hve.cg (hr3 V hkV)
      have hre := hre.cg (hr3 d hkd) (hr3 fo hkfo)
      have hsc := hsc.cg (hr3 sc hksc)
      have hh3 := hh1.cg (hr3 pa hkpa) (fun x hx => hr3 x (by omega))
      have hq31 : f3 q 1 = m 595 := by rw [hf3]; simp only [sv_u]; rw [if_neg (by omega), hmm2.orig, hrp.1 595 (by omega) (by omega)]
      have lp68 : ∀ f4 : sv_F, f4 q 1 = (if m 595 = k then -1 else m 595) → (∀ j, j ≠ 1 → f4 q j = f3 q j) → (∀ z, z ≠ q → f4 z = f3 z) → sv_T X (sv_rm 4 0 0) MX4_drop (sv_Zm X 0 0 (sv_qk (fun a f' r' => (sp_slot m k = -1 ∧ a = -2 ∧ f' = f ∧ r' = r) ∨ (sp_slot m k ≠ -1 ∧ a = sp_bo (sp_drop m k md) k ∧ (sv_NX S V q d fo rs fi se pa sc tx vs fd mp r f (sp_drop m k md) (sp_ku u) (sp_kP m P u) f' r'))) S g)) 0 0 68 [some (sv_r V), some (sv_i k), some (sv_i md), some (sv_i (sp_slot m k))] [] S (f4) r3 g := by
        intro f4 h41 h4j hz4
        have hmv4 : sv_V1 f4 q (sp_rmk kp (sp_slot m k) (m 580)) (sp_sh mm (sp_slot m k) (m 580) k) := sv_V1.rm hmo hmm2 (hrp.wt hw) (by rw [hrp.1 582 (by omega) (by omega)]; exact hgf.2) ⟨s0, s1⟩ hrp.c (fun j j1 j3 => by rw [h4j j j1, hf3]; simp only [sv_u]; rw [if_neg (by omega)]) (by rw [h4j 3 (by omega), hf3]; simp [sv_u]) (by rw [h41, hrp.1 595 (by omega) (by omega)]) (fun z z0 => by rw [hz4 z z0, hf3]; exact sv_u_ne z0)
        have ec4 : sp_sh mm (sp_slot m k) (m 580) k 580 = m 580 - 1 := by unfold sp_sh; rw [if_neg (by omega), if_pos rfl]
        refine sv_aload_n (i := 0) dX4_drop_68 rfl rfl ?_
        refine sv_getR (kz := 0) flX4_10 dX4_drop_69 rfl rfl hve.lt hve.k hve.r0 ?_
        refine sv_iload_n (i := 1) dX4_drop_72 rfl rfl ?_
        refine sv_vp0 (As := [_]) clX4_146 dX4_drop_73 ⟨_, rfl, rfl⟩ (by decide) rfl (Nat.le_of_ble_eq_true rfl) (by decide) (by decide) hmo.lt hmo.k (c_X1_followersOf hmo3 hmv4 (by rw [ec4]; omega) _ hki) ?_
        refine sv_ireturn dX4_drop_76 rfl ?_
        refine ⟨_, rfl, rfl, rfl, Or.inr ⟨hsn, by rw [hdr], ?_⟩⟩
        rw [hdr]
        exact sv_NX.of hve hmo3 hre hsc hh3 hV2 hpv1 hpw1 hku (by rw [hsc1, u2]) (htx1.trans u3) hpm1 (fun N hN x hx => ⟨(hff1 N hN x hx).1, fun h9 => by rw [hr3 x (by have := hN.1; omega)]; exact (hff1 N hN x hx).2 h9⟩) hp (fun x x0 _ _ _ _ _ => by rw [hz4 x (by omega), hf3, sv_u_ne (by omega), ho2 x (by omega)]) hmv4
      refine sv_aload_n (i := 0) dX4_drop_49 rfl rfl ?_
      refine sv_getR (kz := 0) flX4_10 dX4_drop_50 rfl rfl hve.lt hve.k hve.r0 ?_
      refine sv_getI (kz := 1) flX4_117 dX4_drop_53 rfl rfl hmo.lt hmo.k ?_
      rw [hq31]
      refine sv_iload_n (i := 1) dX4_drop_56 rfl rfl ?_
      refine sv_icmp_ne (tgt := 68) dX4_drop_57 (by decide) (hmv1.orig ▸ hin1 q 1) hki (fun h_57 => ?_) (fun h_57 => ?_)
      · first
        | exact lp68 _ (by rw [if_pos (by assumption)]; simp [sv_u]) (fun j hj => by simp [sv_u, hj]) (fun z hz => sv_u_ne hz)
        | exact lp68 _ (by rw [if_neg (by assumption)]; exact hq31) (fun _ _ => rfl) (fun _ _ => rfl)
      · refine sv_aload_n (i := 0) dX4_drop_60 rfl rfl ?_
        refine sv_getR (kz := 0) flX4_10 dX4_drop_61 rfl rfl hve.lt hve.k hve.r0 ?_
        refine sv_iconst dX4_drop_64 ?_
        refine sv_putI (kz := 1) flX4_117 dX4_drop_65 (Or.inl rfl) rfl rfl hmo.lt hmo.k (by decide) ?_
        first
        | exact lp68 _ (by rw [if_pos (by assumption)]; simp [sv_u]) (fun j hj => by simp [sv_u, hj]) (fun z hz => sv_u_ne hz)
        | exact lp68 _ (by rw [if_neg (by assumption)]; exact hq31) (fun _ _ => rfl) (fun _ _ => rfl)
    refine sv_iload_n (i := 2) dX4_drop_32 rfl rfl ?_
    refine sv_if_eq (tgt := 41) dX4_drop_33 (by decide) (by rcases hmd with e | e <;> subst e <;> decide) (fun h_33 => ?_) (fun h_33 => ?_)
    · first
      | exact lp41 f2 _ (by rw [if_pos (by omega)]) (sp_mdi_rp hw _ (by omega)).1 hf2.1 hf2.2
      | exact lp41 f1 m (by rw [if_neg (by omega)]) sp_rp.rf hmv1 (fun _ _ => rfl)
    · refine sv_aload_n (i := 0) dX4_drop_36 rfl rfl ?_
      refine sv_iload_n (i := 1) dX4_drop_37 rfl rfl ?_
      refine sv_vv0 (As := [_]) clX4_139 dX4_drop_38 ⟨_, rfl, rfl⟩ (by decide) rfl (Nat.le_of_ble_eq_true rfl) (by decide) (by decide) hve.lt hve.k (c_X4_mendFollowers hve hmo hmv1 hre hw hv2b hp hgf.2 k hki) (fun f2 hf2 => ?_)
      first
      | exact lp41 f2 _ (by rw [if_pos (by omega)]) (sp_mdi_rp hw _ (by omega)).1 hf2.1 hf2.2
      | exact lp41 f1 m (by rw [if_neg (by omega)]) sp_rp.rf hmv1 (fun _ _ => rfl)
  · refine sv_bipush dX4_drop_14 (by decide) ?_
    refine sv_ireturn dX4_drop_16 rfl ?_
    exact ⟨_, rfl, rfl, rfl, Or.inl ⟨by assumption, rfl, rfl, rfl⟩⟩
