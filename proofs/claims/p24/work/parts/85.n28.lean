section SVKEEP
variable {f f' : sv_F} {k q : Nat} {kp : Int → Nat} {m m' v w : Int → Int} {s n b c : Int} {S : sv_S} {r : sv_R}
theorem sv_V0.ofW2 (h0 : sv_w0 f f' k (-1) n) (x0 : f k 0 = m' (29 * s)) (x1 : f k 1 = m' (29 * s + 1)) (x2 : f k 2 = m' (29 * s + 2)) (hr : sp_rowW m' s n w) (hv : ∀ i, 0 ≤ i → i < n → f' (k + 1) i = i ∧ f' (k + 2) i = w i) : sv_V0 f' k m' s := by
  obtain ⟨-, e0, e1, e2, e3, e4⟩ := h0
  refine ⟨e0.trans x0, e1.trans x1, e2.trans x2, ?_, ?_, fun j j0 j1 => ?_⟩
  · rw [e3, hr.1]
  · rw [e4, hr.2.1]
  · rw [hr.2.1] at j1
    obtain ⟨x1, x2⟩ := hr.2.2 j j0 j1
    obtain ⟨y1, y2⟩ := hv j j0 j1
    rw [x1, x2, y1, y2]; exact ⟨rfl, rfl⟩
theorem sv_V0.ofD2 {a e : Int → Int} (hn0 : 0 ≤ n) (h0 : sv_w0 f f' k b (sp_dn a e n.toNat)) (x0 : f k 0 = m' (29 * s)) (x1 : f k 1 = m' (29 * s + 1)) (x2 : f k 2 = m' (29 * s + 2)) (hr : sp_rowD m' s b n v w) (ea : ∀ j, 0 ≤ j → j < n → a j = v j) (ec : ∀ j, 0 ≤ j → j < n → e j = w j) (hv : ∀ t : Nat, (t : Int) < n → a t ≠ e t → f' (k + 1) (sp_dn a e t) = t ∧ f' (k + 2) (sp_dn a e t) = e t) : sv_V0 f' k m' s := by
  obtain ⟨-, e0, e1, e2, e3, e4⟩ := h0
  have hd : ∀ j, 0 ≤ j → j ≤ n → sp_dn a e j.toNat = sp_dn v w j.toNat := fun j h0 h1 => sp_dn_congr (fun i x y => ea i x (by omega)) (fun i x y => ec i x (by omega))
  refine ⟨e0.trans x0, e1.trans x1, e2.trans x2, ?_, ?_, fun j j0 j1 => ?_⟩
  · rw [e3, hr.1]
  · rw [e4, hr.2.1]; exact hd n hn0 (Int.le_refl _)
  · rw [hr.2.1] at j1
    obtain ⟨t, a1, a2, a3, a4⟩ := sp_dn_hit v w n.toNat j j0 j1
    have ht : (t.toNat : Int) = t := by omega
    have hne : a (t.toNat : Int) ≠ e (t.toNat : Int) := by rw [ht, ea t a1 (by omega), ec t a1 (by omega)]; exact a3
    obtain ⟨y1, y2⟩ := hv t.toNat (by omega) hne
    obtain ⟨x1, x2⟩ := hr.2.2 t a1 (by omega) a3
    rw [hd t a1 (by omega), a4, ht] at y1 y2
    rw [a4] at x1 x2
    rw [x1, x2, y1, y2, ec t a1 (by omega)]
    exact ⟨rfl, rfl⟩
theorem sv_V1.free (hmo : sv_K1 S r q kp) (hmv : sv_V1 f q kp m) (hcc : 0 ≤ m 580 ∧ m 580 ≤ 20) (h0 : m 580 ≤ c) (h1 : c < 20) (he : ∀ x, q ≤ x → x < q + 64 → (x < kp c ∨ kp c + 2 < x) → f' x = f x) : sv_V1 f' q kp m := by
  have hb := hmo.b (p := c) (by omega) h1
  obtain ⟨a0, a1, a2, a3, a4, a5, a6, a7⟩ := hmv
  unfold sv_V1
  rw [he q (by omega) (by omega) (by omega), he (q + 1) (by omega) (by omega) (by omega), he (q + 2) (by omega) (by omega) (by omega)]
  refine ⟨a0, a1, a2, a3, a4, a5, a6, fun t t0 t1 => ?_⟩
  have hd := hmo.d t0 (by omega : t < 20) (by omega : 0 ≤ c) h1 (by omega)
  have hbt := hmo.b (p := t) t0 (by omega)
  exact (a7 t t0 t1).congr (he _ (by omega) (by omega) (by omega)) (he _ (by omega) (by omega) (by omega)) (he _ (by omega) (by omega) (by omega))
theorem sv_V1.more (hmo : sv_K1 S r q kp) (hmv : sv_V1 f q kp m) (hw : sp_wt m) (hg : m 582 ≤ 3) (hc : m 580 < 20) (hk : sp_keep m m') (hv : sv_V0 f (kp (m 580)) m' (m 580)) (h0 : f' q 0 = f q 0) (h1 : f' q 1 = m 581) (h2 : f' q 2 = m 581 + 1) (h3 : f' q 3 = m 580 + 1) (hz : ∀ z, z ≠ q → f' z = f z) : sv_V1 f' q kp m' := by
  have hcc := hw.c
  obtain ⟨k0, k1, k2, k3, k4, k5, k6, -⟩ := hk
  have e582 := k3 582 (by omega) (by omega)
  refine ⟨?_, ?_, ?_, ?_, fun j j0 j1 => ?_, ?_, ?_, fun t t0 t1 => ?_⟩
  · rw [h0, e582]; exact hmv.form
  · rw [h1, k4]
  · rw [h2, k2]
  · rw [h3, k1]
  · rw [e582] at j1; rw [k3 _ (by omega) (by omega), hz _ (by omega)]; exact hmv.val j0 j1
  · rw [k5, hz _ (by omega)]; exact hmv.lim
  · rw [k6, hz _ (by omega)]; exact hmv.ris
  · rw [k1] at t1
    have hbt := hmo.b (p := t) t0 (by omega)
    by_cases e : t = m 580
    · subst e
      exact hv.congr (hz _ (by omega)) (hz _ (by omega)) (hz _ (by omega))
    · exact ((hmv.o t0 (by omega)).congr (hz _ (by omega)) (hz _ (by omega)) (hz _ (by omega))).ext (hw.many t0 (by omega)) fun j j0 j1 => k0 j (by omega) (by omega)
end SVKEEP
set_option maxRecDepth 100000 in
set_option maxHeartbeats 4000000 in
theorem c_X4_baseForGame {X : sv_X} {S : sv_S} {f : sv_F} {r : sv_R} {g : sv_G} {V q d fo rs fi se pa sc : Nat} {kp fd : Int → Nat} {m : Int → Int} (hve : sv_K4 S r V q d fi se pa sc) (hmo : sv_K1 S r q kp) (hmv : sv_V1 f q kp m) (hre : sv_K2 S r d fo rs fd) (hw : sp_wt m) (hv2 : sv_V2 f rs fd m (m 580)) {sc2 tx vs : Nat} (hp : sv_sep V q fi se sc2 tx vs rs fd) (hg : sp_wg m) : sv_C X 4 MX4_baseForGame 0 0 [sv_r V] S f r g (sv_qi (fun a f' => (sp_near m ∧ a = sp_slot m (m 595) ∨ ¬ sp_near m ∧ a = -1) ∧ ∀ x, x ≠ fi → f' x = f x) S r g) := by
  refine sv_met (by decide) (by simp [lg_sl, sv_cv, va_rf, Value.category]) ?_
  refine sv_fr fun hin => ?_
  have hcc := hw.c
  have hgf := hg.f
  have ho5 : sv_in (m 595) := hmv.orig ▸ hin q 1
  refine sv_aload_n (i := 0) dX4_baseForGame_0 rfl rfl ?_
  refine sv_getR (kz := 0) flX4_10 dX4_baseForGame_1 rfl rfl hve.lt hve.k hve.r0 ?_
  refine sv_aload_n (i := 0) dX4_baseForGame_4 rfl rfl ?_
  refine sv_getR (kz := 0) flX4_10 dX4_baseForGame_5 rfl rfl hve.lt hve.k hve.r0 ?_
  refine sv_getI (kz := 1) flX4_117 dX4_baseForGame_8 rfl rfl hmo.lt hmo.k ?_
  rw [hmv.orig]
  refine sv_vp0 (As := [_]) clX4_124 dX4_baseForGame_11 ⟨_, rfl, rfl⟩ (by decide) rfl (Nat.le_of_ble_eq_true rfl) (by decide) (by decide) hmo.lt hmo.k (c_X1_placeOf hmo hmv hcc _ ho5) ?_
  have hst := sp_slot_spec m (m 595)
  refine sv_istore_n (i := 1) dX4_baseForGame_14 rfl (by decide) rfl ?_
  refine sv_iload_n (i := 1) dX4_baseForGame_15 rfl rfl ?_
  refine sv_iconst dX4_baseForGame_16 ?_
  refine sv_icmp_eq (tgt := 35) dX4_baseForGame_17 (by decide) (by omega) (by decide) (fun h_17 => ?_) (fun h_17 => ?_)
  · refine sv_iconst dX4_baseForGame_35 ?_
    refine sv_ireturn dX4_baseForGame_36 rfl ?_
    first
    | exact ⟨_, rfl, rfl, rfl, rfl, Or.inr ⟨fun h : sp_near m => (by have h2 := sp_R_lost hw (by assumption : sp_slot m (m 595) = -1); have := h.2.1; omega), rfl⟩, fun _ _ => rfl⟩
    | exact ⟨_, rfl, rfl, rfl, rfl, Or.inr ⟨fun h : sp_near m => absurd (⟨h.2.1, hlf, h.2.2.1⟩ : sp_R m (m 595) = -1 ∧ m (29 * sp_slot m (m 595) + 1) ≤ m 582 ∧ sp_lk m (m 595) < m 596) (by assumption), rfl⟩, fun _ _ => rfl⟩
  · have hsn : sp_slot m (m 595) ≠ -1 := by assumption
    obtain ⟨s0, s1, s2⟩ := sp_slot_in hsn
    have hfm := hw.frm s0 s1
    obtain ⟨vv1, vv2⟩ := hv2 _ s0 s1
    rw [s2] at vv1
    have hne : m 595 ≠ -1 := fun e => hsn (hw.neg (by omega))
    have hlf : m (29 * sp_slot m (m 595) + 1) ≤ m 582 := hg.o.elim (fun h => absurd h hne) (fun h => h.2.2)
    refine sv_aload_n (i := 0) dX4_baseForGame_20 rfl rfl ?_
    refine sv_iload_n (i := 1) dX4_baseForGame_21 rfl rfl ?_
    refine sv_aload_n (i := 0) dX4_baseForGame_22 rfl rfl ?_
    refine sv_getR (kz := 0) flX4_10 dX4_baseForGame_23 rfl rfl hve.lt hve.k hve.r0 ?_
    refine sv_getI (kz := 0) flX4_54 dX4_baseForGame_26 rfl rfl hmo.lt hmo.k ?_
    rw [hmv.form]
    refine sv_vp0 (As := [_, _]) clX4_191 dX4_baseForGame_29 ⟨_, rfl, rfl⟩ (by decide) rfl (Nat.le_of_ble_eq_true rfl) (by decide) (by decide) hve.lt hve.k (c_X4_canBeBase hve hmo hmv hre hw _ _ _ ⟨s0, s1⟩ (by unfold sv_in; omega) vv1) ?_
    rw [s2]
    refine sv_bif_ne (tgt := 37) dX4_baseForGame_32 (by decide) (fun h_32 => ?_) (fun h_32 => ?_)
    · have hcb : sp_R m (m 595) = -1 ∧ m (29 * sp_slot m (m 595) + 1) ≤ m 582 ∧ sp_lk m (m 595) < m 596 := by assumption
      have hRk := hcb.1
      refine sv_aload_n (i := 0) dX4_baseForGame_37 rfl rfl ?_
      refine sv_iload_n (i := 1) dX4_baseForGame_38 rfl rfl ?_
      refine sv_aload_n (i := 0) dX4_baseForGame_39 rfl rfl ?_
      refine sv_getR (kz := 0) flX4_10 dX4_baseForGame_40 rfl rfl hve.lt hve.k hve.r0 ?_
      refine sv_getI (kz := 0) flX4_54 dX4_baseForGame_43 rfl rfl hmo.lt hmo.k ?_
      refine sv_aload_n (i := 0) dX4_baseForGame_46 rfl rfl ?_
      refine sv_getR (kz := 0) flX4_10 dX4_baseForGame_47 rfl rfl hve.lt hve.k hve.r0 ?_
      refine sv_getR (kz := 4) flX4_51 dX4_baseForGame_50 rfl rfl hmo.lt hmo.k hmo.r1 ?_
      rw [hmv.form]
      refine sv_vi0 (As := [_, _, _]) clX4_170 dX4_baseForGame_53 ⟨_, rfl, rfl⟩ (by decide) rfl (Nat.le_of_ble_eq_true rfl) (by decide) (by decide) hve.lt hve.k (c_X4_distance hve hmo hmv hre hw ⟨hmo.l1, hmo.s1⟩ (sp_slot m (m 595)) (m 582) ⟨s0, s1⟩ (by omega) (by rw [s2]; exact hRk) (fun j j0 j1 => by rw [s2] at vv2 ⊢; exact vv2 hRk j j0 j1) ((hp.1 fi (by simp)).2.2 _ s0 (by omega)) (hp.1 fi (by simp)).1 (by have := (hp.1 fi (by simp)).1; omega)) (fun a f2 hf2 => ?_)
      obtain ⟨ha, hf2⟩ := hf2
      have haa : a = sp_gd m (m 595) := by
        rw [ha, s2]
        unfold sp_gd
        exact sp_dn_congr (fun _ _ _ => rfl) (fun j j0 j1 => hmv.val j0 j1)
      clear ha
      subst haa
      have hgd := sp_gd_in hg.f (m 595)
      refine sv_bipush dX4_baseForGame_56 (by decide) ?_
      refine sv_icmp_gt (tgt := 65) dX4_baseForGame_58 (by decide) (by omega) (by decide) (fun h_58 => ?_) (fun h_58 => ?_)
      · refine sv_iconst dX4_baseForGame_65 ?_
        refine sv_ireturn dX4_baseForGame_66 rfl ?_
        first
        | exact ⟨_, rfl, rfl, rfl, rfl, Or.inl ⟨⟨hne, hRk, hcb.2.2, by omega⟩, rfl⟩, hf2⟩
        | exact ⟨_, rfl, rfl, rfl, rfl, Or.inr ⟨fun h : sp_near m => by have := h.2.2.2; omega, rfl⟩, hf2⟩
      · refine sv_iload_n (i := 1) dX4_baseForGame_61 rfl rfl ?_
        refine sv_goto (tgt := 66) dX4_baseForGame_62 (by decide) ?_
        refine sv_ireturn dX4_baseForGame_66 rfl ?_
        first
        | exact ⟨_, rfl, rfl, rfl, rfl, Or.inl ⟨⟨hne, hRk, hcb.2.2, by omega⟩, rfl⟩, hf2⟩
        | exact ⟨_, rfl, rfl, rfl, rfl, Or.inr ⟨fun h : sp_near m => by have := h.2.2.2; omega, rfl⟩, hf2⟩
    · refine sv_iconst dX4_baseForGame_35 ?_
      refine sv_ireturn dX4_baseForGame_36 rfl ?_
      first
      | exact ⟨_, rfl, rfl, rfl, rfl, Or.inr ⟨fun h : sp_near m => (by have h2 := sp_R_lost hw (by assumption : sp_slot m (m 595) = -1); have := h.2.1; omega), rfl⟩, fun _ _ => rfl⟩
      | exact ⟨_, rfl, rfl, rfl, rfl, Or.inr ⟨fun h : sp_near m => absurd (⟨h.2.1, hlf, h.2.2.1⟩ : sp_R m (m 595) = -1 ∧ m (29 * sp_slot m (m 595) + 1) ≤ m 582 ∧ sp_lk m (m 595) < m 596) (by assumption), rfl⟩, fun _ _ => rfl⟩
set_option maxRecDepth 100000 in
set_option maxHeartbeats 4000000 in
theorem c_X4_keep {X : sv_X} {S : sv_S} {f : sv_F} {r : sv_R} {g : sv_G} {V q d fo rs fi se pa sc : Nat} {kp fd : Int → Nat} {m : Int → Int} (hve : sv_K4 S r V q d fi se pa sc) (hmo : sv_K1 S r q kp) (hmv : sv_V1 f q kp m) (hre : sv_K2 S r d fo rs fd) (hw : sp_wt m) {tx vs : Nat} (hsc : sv_K3 S r sc tx vs) (hp : sv_sep V q fi se sc tx vs rs fd) {mp : Int → Nat} {kq : Int → Int → Nat} {P : Int → Int → Int} {u : Int} (hh : sv_HI S r V q fi se sc tx vs rs fd pa mp kq) (hu : 0 ≤ u ∧ u ≤ 6) (hVu : f V 2 = u) (hpv : ∀ i, 0 ≤ i → i < u → sv_V1 f (mp i) (kq i) (P i)) (hpw : ∀ i, 0 ≤ i → i < u → sp_wt (P i) ∧ sp_wg (P i)) (hg : sp_wg m)  : sv_C X 5 MX4_keep 0 0 [sv_r V] S f r g (sv_qk (fun a f' r' => ((m 580 = 20 ∨ m 581 = 99) ∧ a = -4 ∧ f' = f ∧ r' = r) ∨ (¬ (m 580 = 20 ∨ m 581 = 99) ∧ a = m 581 ∧ (∀ N, sv_bd N V q fi se sc tx vs rs pa fd mp → ∀ x, N ≤ x → f' x = f x ∧ ((S.2 x).1 ≠ 9 → r' x = r x)) ∧ ∀ m', sp_keep m m' → (sv_NX S V q d fo rs fi se pa sc tx vs fd mp r f m' (sp_ku u) (sp_kP m P u) f' r'))) S g) := by
  refine sv_met (by decide) (by simp [lg_sl, sv_cv, va_rf, Value.category]) ?_
  refine sv_fr fun hin => ?_
  have hcc := hw.c
  have hgf := hg.f
  have hcm := hw.cm
  have ho5 : sv_in (m 595) := hmv.orig ▸ hin q 1
  refine sv_aload_n (i := 0) dX4_keep_0 rfl rfl ?_
  refine sv_getR (kz := 0) flX4_10 dX4_keep_1 rfl rfl hve.lt hve.k hve.r0 ?_
  refine sv_getI (kz := 3) flX4_79 dX4_keep_4 rfl rfl hmo.lt hmo.k ?_
  rw [hmv.size]
  refine sv_bipush dX4_keep_7 (by decide) ?_
  refine sv_icmp_ge (tgt := 24) dX4_keep_9 (by decide) (by omega) (by decide) (fun h_9 => ?_) (fun h_9 => ?_)
  · refine sv_bipush dX4_keep_24 (by decide) ?_
    refine sv_ireturn dX4_keep_26 rfl ?_
    exact ⟨_, rfl, rfl, rfl, Or.inl ⟨by omega, rfl, rfl, rfl⟩⟩
  · refine sv_aload_n (i := 0) dX4_keep_12 rfl rfl ?_
    refine sv_getR (kz := 0) flX4_10 dX4_keep_13 rfl rfl hve.lt hve.k hve.r0 ?_
    refine sv_getI (kz := 2) flX4_82 dX4_keep_16 rfl rfl hmo.lt hmo.k ?_
    rw [hmv.came]
    refine sv_bipush dX4_keep_19 (by decide) ?_
    refine sv_icmp_lt (tgt := 27) dX4_keep_21 (by decide) (by omega) (by decide) (fun h_21 => ?_) (fun h_21 => ?_)
    · refine sv_aload_n (i := 0) dX4_keep_27 rfl rfl ?_
      refine sv_getR (kz := 4) flX4_34 dX4_keep_28 rfl rfl hve.lt hve.k hve.r4 ?_
      refine sv_aload_n (i := 0) dX4_keep_31 rfl rfl ?_
      refine sv_getR (kz := 0) flX4_10 dX4_keep_32 rfl rfl hve.lt hve.k hve.r0 ?_
      refine sv_vv0 (As := [_]) clX4_85 dX4_keep_35 ⟨_, rfl, rfl⟩ (by decide) rfl (Nat.le_of_ble_eq_true rfl) (by decide) (by decide) hre.lt hre.k (c_X2_readAll hmo hmv hre hp.2.2.1 hw hp.2.1) (fun f0 hf0 => ?_)
      obtain ⟨hr1, hv2⟩ := hf0
      have hun : sv_un rs fi se fd f f0 := fun x a b _ _ => hr1 x a b
      have hv1 : sv_V1 f0 q kp m := sv_V1.congr hmo hcc hmv fun x x0 x1 => hr1 x (by have := hp.2.1; omega) fun p p0 p1 => by have := hp.2.2.1 p p0 p1; omega
      obtain ⟨u1, u2, u3, u4⟩ := hp.un hun
      have hVrs : V ≠ rs := (hp.1 V (by simp)).2.1
      have hVfd : ∀ p, 0 ≤ p → p < 20 → V ≠ fd p := (hp.1 V (by simp)).2.2
      have hVu0 : f0 V 2 = u := by rw [u1]; exact hVu
      have hpv0 : ∀ i, 0 ≤ i → i < u → sv_V1 f0 (mp i) (kq i) (P i) := fun i i0 i1 => sv_V1.congr (hh.o i0 (by omega)) (hpw i i0 i1).1.c (hpv i i0 i1) fun x x0 x1 => hr1 x (by have := hh.x i0 (by omega : i < 6) rs (by simp); omega) fun p p0 p1 => by have := hh.p i0 (by omega : i < 6) p p0 p1; omega
      refine sv_aload_n (i := 0) dX4_keep_38 rfl rfl ?_
      refine sv_vh0 (As := []) clX4_65 dX4_keep_39 ⟨_, rfl, rfl⟩ (by decide) rfl (Nat.le_of_ble_eq_true rfl) (by decide) (by decide) hve.lt hve.k (c_X4_remember hve hmo hv1 hre hw hsc hp hh hu hVu0 hpv0 hpw hg) (fun f1 r1 hrm => ?_)
      obtain ⟨mp1, kq1, hh1, hrk, hV2, hhk, hpv1, hpm1⟩ := hrm
      have hve := hve.rk hrk
      have hmo := hmo.rk hrk
      have hre := hre.rk hrk
      have hsc := hsc.rk hrk
      have hVx := (hp.1 V (by simp)).1
      have hmv1 : sv_V1 f1 q kp m := sv_V1.congr hmo hcc hv1 fun x x0 x1 => hh1.of hhk (by omega) (Or.inl ⟨x0, x1⟩)
      have hsc1 : f1 sc = f0 sc := hh1.of hhk (Ne.symm hp.2.2.2.1.1) (by simp)
      have htx1 : f1 tx = f0 tx := hh1.of hhk (Ne.symm hp.2.2.2.1.2.1) (by simp)
      have hpw1 := sp_kP_w hw hg hu hpw
      have hku : sp_ku u ≤ 6 := by unfold sp_ku; split <;> omega
      have hff1 : ∀ N, sv_bd N V q fi se sc tx vs rs pa fd mp → ∀ x, N ≤ x → f1 x = f x ∧ ((S.2 x).1 ≠ 9 → r1 x = r x) := fun N hN x hx => ⟨by
        rw [hhk.2 x (by have := hN.1; omega) (fun i i0 i1 => by obtain ⟨j, j0, j1, j2⟩ := hpm1 i i0 i1; have := hN.2.2 j j0 j1; omega)]
        exact hr1 x (by have := hN.1; omega) (fun p p0 p1 => by have := hN.2.1 p p0 p1; omega), hrk x⟩
      have hv2b : sv_V2 f1 rs fd m (m 580) := sv_V2.congr hcc (hh1.of hhk (Ne.symm hVrs) (by simp)) (fun p p0 p1 => hh1.of hhk (Ne.symm (hVfd p p0 p1)) (by right; right; right; right; right; right; right; exact ⟨p, p0, p1, rfl⟩)) hv2
      have hk := hmo.o (p := m 580) (by omega) (by omega)
      have hkb := hmo.b (p := m 580) (by omega) (by omega)
      have lp : ∀ (f4 : sv_F) (b : Int), (∀ m', sp_keep m m' → sv_V0 f4 (kp (m 580)) m' (m 580)) → sv_V1 f4 q kp m → (∀ x, (x < q ∨ q + 64 ≤ x) → x ≠ fi → f4 x = f1 x) → f4 (kp (m 580)) 0 = m 581 → sv_T X (sv_rm 5 0 0) MX4_keep (sv_Zm X 0 0 (sv_qk (fun a f' r' => ((m 580 = 20 ∨ m 581 = 99) ∧ a = -4 ∧ f' = f ∧ r' = r) ∨ (¬ (m 580 = 20 ∨ m 581 = 99) ∧ a = m 581 ∧ (∀ N, sv_bd N V q fi se sc tx vs rs pa fd mp → ∀ x, N ≤ x → f' x = f x ∧ ((S.2 x).1 ≠ 9 → r' x = r x)) ∧ ∀ m', sp_keep m m' → (sv_NX S V q d fo rs fi se pa sc tx vs fd mp r f m' (sp_ku u) (sp_kP m P u) f' r'))) S g)) 0 0 163 [some (sv_r V), some (sv_r (kp (m 580))), some (sv_i b)] [] S (f4) r1 g := by
        intro f4 b h4k h4b h4x h40
        refine sv_aload_n (i := 0) dX4_keep_163 rfl rfl ?_
        refine sv_getR (kz := 0) flX4_10 dX4_keep_164 rfl rfl hve.lt hve.k hve.r0 ?_
        refine sv_dup dX4_keep_167 rfl ?_
        refine sv_getI (kz := 3) flX4_79 dX4_keep_168 rfl rfl hmo.lt hmo.k ?_
        rw [h4b.size]
        refine sv_iconst dX4_keep_171 ?_
        refine sv_iadd dX4_keep_172 ?_
        refine sv_putI (kz := 3) flX4_79 dX4_keep_173 (Or.inl rfl) rfl rfl hmo.lt hmo.k (by unfold sv_in; omega) ?_
        refine sv_aload_n (i := 0) dX4_keep_176 rfl rfl ?_
        refine sv_getR (kz := 0) flX4_10 dX4_keep_177 rfl rfl hve.lt hve.k hve.r0 ?_
        refine sv_dup dX4_keep_180 rfl ?_
        refine sv_getI (kz := 2) flX4_82 dX4_keep_181 rfl rfl hmo.lt hmo.k ?_
        rw [show sv_u f4 q 3 (m 580 + 1) q 2 = f4 q 2 by simp [sv_u], h4b.came]
        refine sv_iconst dX4_keep_184 ?_
        refine sv_iadd dX4_keep_185 ?_
        refine sv_putI (kz := 2) flX4_82 dX4_keep_186 (Or.inl rfl) rfl rfl hmo.lt hmo.k (by unfold sv_in; omega) ?_
        refine sv_aload_n (i := 0) dX4_keep_189 rfl rfl ?_
        refine sv_getR (kz := 0) flX4_10 dX4_keep_190 rfl rfl hve.lt hve.k hve.r0 ?_
        refine sv_aload_n (i := 1) dX4_keep_193 rfl rfl ?_
        refine sv_getI (kz := 0) flX4_93 dX4_keep_194 rfl rfl hk.lt hk.k ?_
        rw [sv_u_ne (by omega), sv_u_ne (by omega), h40]
        refine sv_putI (kz := 1) flX4_117 dX4_keep_197 (Or.inl rfl) rfl rfl hmo.lt hmo.k (by unfold sv_in; omega) ?_
        refine sv_aload_n (i := 1) dX4_keep_200 rfl rfl ?_
        refine sv_getI (kz := 0) flX4_93 dX4_keep_201 rfl rfl hk.lt hk.k ?_
        rw [sv_u_ne (by omega), sv_u_ne (by omega), sv_u_ne (by omega), h40]
        refine sv_ireturn dX4_keep_204 rfl ?_
        refine ⟨_, rfl, rfl, rfl, Or.inr ⟨by omega, rfl, fun N hN x hx => ⟨by rw [sv_u_ne (by have := hN.1; omega), sv_u_ne (by have := hN.1; omega), sv_u_ne (by have := hN.1; omega), h4x x (by have := hN.1; omega) (by have := hN.1; omega)]; exact (hff1 N hN x hx).1, (hff1 N hN x hx).2⟩, fun m' hm' => ?_⟩⟩
        refine sv_NX.of hve hmo hre hsc hh1 hV2 hpv1 hpw1 hku (by rw [hsc1, u2]) (htx1.trans u3) hpm1 hff1 hp (fun x x0 x1 _ _ _ _ => by rw [sv_u_ne (by omega), sv_u_ne (by omega), sv_u_ne (by omega)]; exact h4x x x0 x1) (sv_V1.more hmo h4b hw hgf.2 (by omega) hm' (h4k m' hm') ?_ ?_ ?_ ?_ (fun z z0 => by rw [sv_u_ne z0, sv_u_ne z0, sv_u_ne z0]))
        · simp [sv_u]
        · simp [sv_u]
        · simp [sv_u]
        · simp [sv_u]
      refine sv_aload_n (i := 0) dX4_keep_42 rfl rfl ?_
      refine sv_getR (kz := 0) flX4_10 dX4_keep_43 rfl rfl hve.lt hve.k hve.r0 ?_
      refine sv_getR (kz := 6) flX4_89 dX4_keep_46 rfl rfl hmo.lt hmo.k hmo.r3 ?_
      refine sv_aload_n (i := 0) dX4_keep_49 rfl rfl ?_
      refine sv_getR (kz := 0) flX4_10 dX4_keep_50 rfl rfl hve.lt hve.k hve.r0 ?_
      refine sv_getI (kz := 3) flX4_79 dX4_keep_53 rfl rfl hmo.lt hmo.k ?_
      rw [hmv1.size]
      refine sv_aald (t := 0) (n := 20) dX4_keep_56 hmo.l3 (by decide) hmo.s3 (by omega) (hmo.e (p := m 580) (by omega) (by omega)) ?_
      refine sv_astore_n (i := 1) dX4_keep_57 rfl (by decide) rfl ?_
      refine sv_aload_n (i := 1) dX4_keep_58 rfl rfl ?_
      refine sv_aload_n (i := 0) dX4_keep_59 rfl rfl ?_
      refine sv_getR (kz := 0) flX4_10 dX4_keep_60 rfl rfl hve.lt hve.k hve.r0 ?_
      refine sv_getI (kz := 2) flX4_82 dX4_keep_63 rfl rfl hmo.lt hmo.k ?_
      rw [hmv1.came]
      refine sv_putI (kz := 0) flX4_93 dX4_keep_66 (Or.inl rfl) rfl rfl hk.lt hk.k (by unfold sv_in; omega) ?_
      refine sv_aload_n (i := 1) dX4_keep_69 rfl rfl ?_
      refine sv_aload_n (i := 0) dX4_keep_70 rfl rfl ?_
      refine sv_getR (kz := 0) flX4_10 dX4_keep_71 rfl rfl hve.lt hve.k hve.r0 ?_
      refine sv_getI (kz := 0) flX4_54 dX4_keep_74 rfl rfl hmo.lt hmo.k ?_
      rw [sv_u_ne (by omega), hmv1.form]
      refine sv_putI (kz := 1) flX4_98 dX4_keep_77 (Or.inl rfl) rfl rfl hk.lt hk.k (by unfold sv_in; omega) ?_
      refine sv_aload_n (i := 1) dX4_keep_80 rfl rfl ?_
      refine sv_aload_n (i := 0) dX4_keep_81 rfl rfl ?_
      refine sv_getR (kz := 0) flX4_10 dX4_keep_82 rfl rfl hve.lt hve.k hve.r0 ?_
      refine sv_getR (kz := 4) flX4_51 dX4_keep_85 rfl rfl hmo.lt hmo.k hmo.r1 ?_
      refine sv_aload_n (i := 0) dX4_keep_88 rfl rfl ?_
      refine sv_getR (kz := 0) flX4_10 dX4_keep_89 rfl rfl hve.lt hve.k hve.r0 ?_
      refine sv_getI (kz := 0) flX4_54 dX4_keep_92 rfl rfl hmo.lt hmo.k ?_
      rw [sv_u_ne (by omega), sv_u_ne (by omega), hmv1.form]
      refine sv_sp0 (As := [_, _]) clX4_99 dX4_keep_95 rfl (Nat.le_of_ble_eq_true rfl) (by decide) (by decide) (c_X4_sumOf ⟨hmo.l1, hmo.s1⟩ (by omega) (by rw [sv_u_ne (by omega), sv_u_ne (by omega)]; exact fun j j0 j1 => by rw [hmv1.val j0 j1]; exact hg.v j j0 j1)) ?_
      rw [show sp_sm (sv_u (sv_u f1 (kp (m 580)) 0 (m 581)) (kp (m 580)) 1 (m 582) (q + 1)) (6 + 2 * m 582).toNat = (sp_sm (sp_gv m) (6 + 2 * m 582).toNat) by rw [sv_u_ne (by omega), sv_u_ne (by omega)]; exact sp_sm_congr fun j j0 j1 => hmv1.val j0 j1]
      have hsmi : sv_in (sp_sm (sp_gv m) (6 + 2 * m 582).toNat) := by have := sp_sm_in (sp_gv m) (6 + 2 * m 582).toNat; unfold sv_in; omega
      refine sv_putI (kz := 2) flX4_102 dX4_keep_98 (Or.inl rfl) rfl rfl hk.lt hk.k hsmi ?_
      have hfiq : fi < q ∨ q + 64 ≤ fi := (hp.1 fi (by simp)).1
      have hrsq : rs < q ∨ q + 64 ≤ rs := hp.2.1
      have hmv2 : sv_V1 (sv_u (sv_u (sv_u f1 (kp (m 580)) 0 (m 581)) (kp (m 580)) 1 (m 582)) (kp (m 580)) 2 (sp_sm (sp_gv m) (6 + 2 * m 582).toNat)) q kp m := sv_V1.free hmo hmv1 hcc (c := m 580) (by omega) (by omega) fun x x0 x1 x2 => by rw [sv_u_ne (by omega), sv_u_ne (by omega), sv_u_ne (by omega)]
      have hv2c : sv_V2 (sv_u (sv_u (sv_u f1 (kp (m 580)) 0 (m 581)) (kp (m 580)) 1 (m 582)) (kp (m 580)) 2 (sp_sm (sp_gv m) (6 + 2 * m 582).toNat)) rs fd m (m 580) := sv_V2.congr hcc (by rw [sv_u_ne (by omega), sv_u_ne (by omega), sv_u_ne (by omega)]) (fun p p0 p1 => by have := hp.2.2.1 p p0 p1; rw [sv_u_ne (by omega), sv_u_ne (by omega), sv_u_ne (by omega)]) hv2b
      refine sv_aload_n (i := 0) dX4_keep_101 rfl rfl ?_
      refine sv_vi0 (As := []) clX4_105 dX4_keep_102 ⟨_, rfl, rfl⟩ (by decide) rfl (Nat.le_of_ble_eq_true rfl) (by decide) (by decide) hve.lt hve.k (c_X4_baseForGame hve hmo hmv2 hre hw hv2c hp hg) (fun a f3 hf3 => ?_)
      obtain ⟨ha, hf3⟩ := hf3
      have hmv3 : sv_V1 f3 q kp m := sv_V1.congr hmo hcc hmv2 fun x x0 x1 => hf3 x (by omega)
      have e3k : f3 (kp (m 580)) = (sv_u (sv_u (sv_u f1 (kp (m 580)) 0 (m 581)) (kp (m 580)) 1 (m 582)) (kp (m 580)) 2 (sp_sm (sp_gv m) (6 + 2 * m 582).toNat)) (kp (m 580)) := hf3 _ (by omega)
      have e30 : f3 (kp (m 580)) 0 = m 581 := by rw [e3k]; simp [sv_u]
      have e31 : f3 (kp (m 580)) 1 = m 582 := by rw [e3k]; simp [sv_u]
      have e32 : f3 (kp (m 580)) 2 = (sp_sm (sp_gv m) (6 + 2 * m 582).toNat) := by rw [e3k]; simp [sv_u]
      have hout3 : ∀ x, (x < q ∨ q + 64 ≤ x) → x ≠ fi → f3 x = f1 x := fun x x0 x1 => by rw [hf3 x x1, sv_u_ne (by omega), sv_u_ne (by omega), sv_u_ne (by omega)]
      refine sv_istore_n (i := 2) dX4_keep_105 rfl (by decide) rfl ?_
      have hai : sv_in a := by have := sp_slot_spec m (m 595); unfold sv_in; omega
      refine sv_iload_n (i := 2) dX4_keep_106 rfl rfl ?_
      refine sv_iconst dX4_keep_107 ?_
      refine sv_icmp_ne (tgt := 125) dX4_keep_108 (by decide) hai (by decide) (fun h_108 => ?_) (fun h_108 => ?_)
      · have hnr2 : sp_near m ∧ a = sp_slot m (m 595) := by
          rcases ha with h | h
          · exact h
          · exact absurd h.2 (by assumption)
        obtain ⟨hnr, ha⟩ := hnr2
        obtain ⟨s0, s1, s2⟩ := sp_slot_in (fun e => by omega : sp_slot m (m 595) ≠ -1)
        have hfm := hw.frm s0 s1
        have hlf : m (29 * sp_slot m (m 595) + 1) ≤ m 582 := hg.o.elim (fun h => absurd h hnr.1) (fun h => h.2.2)
        have hv2d : sv_V2 f3 rs fd m (m 580) := sv_V2.congr hcc (hf3 _ (by have := (hp.1 fi (by simp)).2.1; omega)) (fun p p0 p1 => hf3 _ (Ne.symm ((hp.1 fi (by simp)).2.2 p p0 p1))) hv2c
        obtain ⟨vv1, vv2⟩ := hv2c _ s0 s1
        subst ha
        refine sv_aload_n (i := 0) dX4_keep_125 rfl rfl ?_
        refine sv_iload_n (i := 2) dX4_keep_126 rfl rfl ?_
        refine sv_aload_n (i := 0) dX4_keep_127 rfl rfl ?_
        refine sv_getR (kz := 0) flX4_10 dX4_keep_128 rfl rfl hve.lt hve.k hve.r0 ?_
        refine sv_getI (kz := 0) flX4_54 dX4_keep_131 rfl rfl hmo.lt hmo.k ?_
        refine sv_aload_n (i := 0) dX4_keep_134 rfl rfl ?_
        refine sv_getR (kz := 5) flX4_38 dX4_keep_135 rfl rfl hve.lt hve.k hve.r5 ?_
        rw [hmv3.form]
        refine sv_vv0 (As := [_, _, _]) clX4_113 dX4_keep_138 ⟨_, rfl, rfl⟩ (by decide) rfl (Nat.le_of_ble_eq_true rfl) (by decide) (by decide) hve.lt hve.k (c_X4_raiseRead hve hmo hmv3 hre hw ⟨hve.l5, hve.s5⟩ (sp_slot m (m 595)) (m 582) ⟨s0, s1⟩ (by omega) (by rw [s2]; exact hnr.2.1) (fun j j0 j1 => by rw [s2] at vv2 ⊢; rw [hf3 _ (Ne.symm ((hp.1 fi (by simp)).2.2 _ s0 (by omega)))]; exact vv2 hnr.2.1 j j0 j1) ((hp.1 fi (by simp)).2.2 _ s0 (by omega)) hfiq) (fun f4 hf4 => ?_)
        obtain ⟨g1, g2⟩ := hf4
        have hmv4 : sv_V1 f4 q kp m := sv_V1.congr hmo hcc hmv3 fun x x0 x1 => g1 x (by omega)
        refine sv_aload_n (i := 1) dX4_keep_141 rfl rfl ?_
        refine sv_aload_n (i := 0) dX4_keep_142 rfl rfl ?_
        refine sv_getR (kz := 0) flX4_10 dX4_keep_143 rfl rfl hve.lt hve.k hve.r0 ?_
        refine sv_getI (kz := 1) flX4_117 dX4_keep_146 rfl rfl hmo.lt hmo.k ?_
        rw [hmv4.orig]
        refine sv_aload_n (i := 0) dX4_keep_149 rfl rfl ?_
        refine sv_getR (kz := 5) flX4_38 dX4_keep_150 rfl rfl hve.lt hve.k hve.r5 ?_
        refine sv_aload_n (i := 0) dX4_keep_153 rfl rfl ?_
        refine sv_getR (kz := 0) flX4_10 dX4_keep_154 rfl rfl hve.lt hve.k hve.r0 ?_
        refine sv_getR (kz := 4) flX4_51 dX4_keep_157 rfl rfl hmo.lt hmo.k hmo.r1 ?_
        refine sv_vv0 (As := [_, _, _]) clX4_120 dX4_keep_160 ⟨_, rfl, rfl⟩ (by decide) rfl (Nat.le_of_ble_eq_true rfl) (by decide) (by decide) hk.lt hk.k (c_X0_makeDifference hk ⟨hve.l5, hve.s5⟩ ⟨hmo.l1, hmo.s1⟩ (by omega) (by omega) ho5 (by rw [g1 _ (by omega), e31]; exact hgf)) (fun f5 hf5 => ?_)
        obtain ⟨y1, y2⟩ := hf5
        have e41 : f4 (kp (m 580)) = f3 (kp (m 580)) := g1 _ (by omega)
        rw [e41, e31] at y1 y2
        first
        | (refine lp f5 _ (fun m' hm' => ?_) (sv_V1.free hmo hmv4 hcc (c := m 580) (by omega) (by omega) fun x x0 x1 x2 => y1.1 x (by omega) (by omega) (by omega)) (fun x x0 x1 => by rw [y1.1 x (by omega) (by omega) (by omega), g1 x x1]; exact hout3 x x0 x1) (by rw [y1.2.1, e41]; exact e30)
           obtain ⟨k0, k1, k2, k3, k4, k5, k6, k7, k8, k9, k10, k11⟩ := hm'
           exact sv_V0.ofD2 (by omega) y1 (by rw [e41, e30, k7]) (by rw [e41, e31, k8]) (by rw [e41, e32, k9]) (k10 hnr) (fun j j0 j1 => by rw [g2 j j0 j1, s2]) (fun j j0 j1 => hmv4.val j0 j1) y2)
        | (refine lp f4 _ (fun m' hm' => ?_) (sv_V1.free hmo hmv3 hcc (c := m 580) (by omega) (by omega) fun x x0 x1 x2 => g1.1 x (by omega) (by omega) (by omega)) (fun x x0 x1 => by rw [g1.1 x (by omega) (by omega) (by omega)]; exact hout3 x x0 x1) (by rw [g1.2.1]; exact e30)
           obtain ⟨k0, k1, k2, k3, k4, k5, k6, k7, k8, k9, k10, k11⟩ := hm'
           refine sv_V0.ofW2 g1 (by rw [e30, k7]) (by rw [e31, k8]) (by rw [e32, k9]) (k11 hnn) (fun j j0 j1 => ?_)
           obtain ⟨z1, z2⟩ := g2 j j0 j1
           exact ⟨z1, by rw [z2]; exact hmv3.val j0 j1⟩)
      · refine sv_aload_n (i := 1) dX4_keep_111 rfl rfl ?_
        refine sv_aload_n (i := 0) dX4_keep_112 rfl rfl ?_
        refine sv_getR (kz := 0) flX4_10 dX4_keep_113 rfl rfl hve.lt hve.k hve.r0 ?_
        refine sv_getR (kz := 4) flX4_51 dX4_keep_116 rfl rfl hmo.lt hmo.k hmo.r1 ?_
        refine sv_vv0 (As := [_]) clX4_109 dX4_keep_119 ⟨_, rfl, rfl⟩ (by decide) rfl (Nat.le_of_ble_eq_true rfl) (by decide) (by decide) hk.lt hk.k (c_X0_makeWhole hk ⟨hmo.l1, hmo.s1⟩ (by omega) (by rw [e31]; exact hgf)) (fun f4 hf4 => ?_)
        obtain ⟨g1, g2⟩ := hf4
        rw [e31] at g1 g2
        have hnn : ¬ sp_near m := by
          rcases ha with ⟨h, ha⟩ | ⟨h, ha⟩
          · exfalso
            have h1 := h.2.1
            have h2 := sp_R_lost hw (n := m 595) (by omega)
            omega
          · exact h
        refine sv_goto (tgt := 163) dX4_keep_122 (by decide) ?_
        first
        | (refine lp f5 _ (fun m' hm' => ?_) (sv_V1.free hmo hmv4 hcc (c := m 580) (by omega) (by omega) fun x x0 x1 x2 => y1.1 x (by omega) (by omega) (by omega)) (fun x x0 x1 => by rw [y1.1 x (by omega) (by omega) (by omega), g1 x x1]; exact hout3 x x0 x1) (by rw [y1.2.1, e41]; exact e30)
           obtain ⟨k0, k1, k2, k3, k4, k5, k6, k7, k8, k9, k10, k11⟩ := hm'
           exact sv_V0.ofD2 (by omega) y1 (by rw [e41, e30, k7]) (by rw [e41, e31, k8]) (by rw [e41, e32, k9]) (k10 hnr) (fun j j0 j1 => by rw [g2 j j0 j1, s2]) (fun j j0 j1 => hmv4.val j0 j1) y2)
        | (refine lp f4 _ (fun m' hm' => ?_) (sv_V1.free hmo hmv3 hcc (c := m 580) (by omega) (by omega) fun x x0 x1 x2 => g1.1 x (by omega) (by omega) (by omega)) (fun x x0 x1 => by rw [g1.1 x (by omega) (by omega) (by omega)]; exact hout3 x x0 x1) (by rw [g1.2.1]; exact e30)
           obtain ⟨k0, k1, k2, k3, k4, k5, k6, k7, k8, k9, k10, k11⟩ := hm'
           refine sv_V0.ofW2 g1 (by rw [e30, k7]) (by rw [e31, k8]) (by rw [e32, k9]) (k11 hnn) (fun j j0 j1 => ?_)
           obtain ⟨z1, z2⟩ := g2 j j0 j1
           exact ⟨z1, by rw [z2]; exact hmv3.val j0 j1⟩)
    · refine sv_bipush dX4_keep_24 (by decide) ?_
      refine sv_ireturn dX4_keep_26 rfl ?_
      exact ⟨_, rfl, rfl, rfl, Or.inl ⟨by omega, rfl, rfl, rfl⟩⟩
