theorem sv_V0.ext {f : sv_F} {k : Nat} {m m' : Int → Int} {s : Int} (h : sv_V0 f k m s) (hz : 0 ≤ m (29 * s + 4) ∧ m (29 * s + 4) ≤ 12) (he : ∀ j, 29 * s ≤ j → j < 29 * s + 29 → m' j = m j) : sv_V0 f k m' s := by
  have h4 := he (29 * s + 4) (by omega) (by omega)
  refine ⟨?_, ?_, ?_, ?_, ?_, fun j j0 j1 => ?_⟩
  · rw [he _ (by omega) (by omega)]; exact h.num
  · rw [he _ (by omega) (by omega)]; exact h.form
  · rw [he _ (by omega) (by omega)]; exact h.sum
  · rw [he _ (by omega) (by omega)]; exact h.base
  · rw [h4]; exact h.size
  · rw [h4] at j1
    rw [he _ (by omega) (by omega), he _ (by omega) (by omega)]
    exact ⟨h.idx j0 j1, h.val j0 j1⟩
theorem sv_V1.game {S : sv_S} {r : sv_R} {f f2 : sv_F} {q : Nat} {kp : Int → Nat} {m m' : Int → Int} (hmo : sv_K1 S r q kp) (hmv : sv_V1 f q kp m) (hw : sp_wt m) (he : ∀ x, q + 4 ≤ x → x < q + 64 → f2 x = f x) (h1 : ∀ j, 0 ≤ j → j < 582 → m' j = m j) (a0 : f2 q 0 = m' 582) (a1 : f2 q 1 = m' 595) (a2 : f2 q 2 = f q 2) (a3 : f2 q 3 = f q 3) (a4 : ∀ j, 0 ≤ j → j < 6 + 2 * m' 582 → f2 (q + 1) j = m' (583 + j)) (a5 : f2 (q + 2) 0 = m' 596) (a6 : f2 (q + 2) 1 = m' 597) : sv_V1 f2 q kp m' := by
  have hcc := hw.c
  refine ⟨a0, a1, ?_, ?_, a4, a5, a6, fun s s0 s1 => ?_⟩
  · rw [a2, h1 _ (by omega) (by omega)]; exact hmv.came
  · rw [a3, h1 _ (by omega) (by omega)]; exact hmv.size
  · rw [h1 _ (by omega) (by omega)] at s1
    have hb := hmo.b (p := s) s0 (by omega)
    have hmy := hw.many s0 s1
    exact ((hmv.o s0 s1).congr (he _ (by omega) (by omega)) (he _ (by omega) (by omega)) (he _ (by omega) (by omega))).ext hmy fun j j0 j1 => h1 j (by omega) (by omega)
theorem sv_V1.row1 {S : sv_S} {r : sv_R} {f f2 : sv_F} {q : Nat} {kp : Int → Nat} {m m' : Int → Int} {s : Int} (hmo : sv_K1 S r q kp) (hmv : sv_V1 f q kp m) (hw : sp_wt m) (s0 : 0 ≤ s) (s1 : s < m 580) (he : ∀ x, (x < kp s ∨ kp s + 2 < x) → q ≤ x → x < q + 64 → f2 x = f x) (hm : ∀ j, 0 ≤ j → j < 598 → ¬ (29 * s ≤ j ∧ j < 29 * s + 29) → m' j = m j) (hv : sv_V0 f2 (kp s) m' s) (hfm : m 582 ≤ 3) : sv_V1 f2 q kp m' := by
  have hcc := hw.c
  have hb := hmo.b (p := s) s0 (by omega)
  have hq : f2 q = f q := he q (by omega) (by omega) (by omega)
  have hq1 : f2 (q + 1) = f (q + 1) := he _ (by omega) (by omega) (by omega)
  have hq2 : f2 (q + 2) = f (q + 2) := he _ (by omega) (by omega) (by omega)
  have g : ∀ j, 580 ≤ j → j < 598 → m' j = m j := fun j j0 j1 => hm j (by omega) j1 (by omega)
  unfold sv_V1
  rw [hq, hq1, hq2, g 580 (by omega) (by omega), g 581 (by omega) (by omega), g 582 (by omega) (by omega), g 595 (by omega) (by omega), g 596 (by omega) (by omega), g 597 (by omega) (by omega)]
  refine ⟨hmv.form, hmv.orig, hmv.came, hmv.size, fun j j0 j1 => ?_, hmv.lim, hmv.ris, fun t t0 t1 => ?_⟩
  · rw [g _ (by omega) (by omega)]; exact hmv.val j0 j1
  · by_cases e : t = s
    · subst e; exact hv
    · have hd := hmo.d t0 (by omega : t < 20) s0 (by omega) e
      have hbt := hmo.b (p := t) t0 (by omega)
      exact ((hmv.o t0 t1).congr (he _ (by omega) (by omega) (by omega)) (he _ (by omega) (by omega) (by omega)) (he _ (by omega) (by omega) (by omega))).ext (hw.many t0 t1) fun j j0 j1 => hm j (by omega) (by omega) (by omega)
/-- all things of a vault lie below N -/
def sv_bd (N V q fi se sc tx vs rs pa : Nat) (fd : Int → Nat) (mp : Int → Nat) : Prop := (q + 64 ≤ N ∧ V < N ∧ fi < N ∧ se < N ∧ sc < N ∧ tx < N ∧ vs < N ∧ rs < N ∧ pa < N) ∧ (∀ p, 0 ≤ p → p < 20 → fd p < N) ∧ ∀ i, 0 ≤ i → i < 6 → mp i + 64 ≤ N
/-- the vault after a call: its game is m', its history the u' tables P' -/
def sv_NX (S : sv_S) (V q d fo rs fi se pa sc tx vs : Nat) (fd : Int → Nat) (mp : Int → Nat) (r : sv_R) (f : sv_F) (m' : Int → Int) (u' : Int) (P' : Int → Int → Int) (f' : sv_F) (r' : sv_R) : Prop := ∃ (kp' mp' : Int → Nat) (kq' : Int → Int → Nat), sv_K4 S r' V q d fi se pa sc ∧ sv_K1 S r' q kp' ∧ sv_K2 S r' d fo rs fd ∧ sv_K3 S r' sc tx vs ∧ sv_HI S r' V q fi se sc tx vs rs fd pa mp' kq' ∧ sv_V1 f' q kp' m' ∧ f' V 2 = u' ∧ (∀ i, 0 ≤ i → i < u' → sv_V1 f' (mp' i) (kq' i) (P' i)) ∧ f' sc 1 = f sc 1 ∧ f' tx = f tx ∧ ∀ N, sv_bd N V q fi se sc tx vs rs pa fd mp → sv_bd N V q fi se sc tx vs rs pa fd mp' ∧ ∀ x, N ≤ x → f' x = f x ∧ ((S.2 x).1 ≠ 9 → r' x = r x)
theorem sv_NX.of {S : sv_S} {r r1 : sv_R} {f f1 f2 : sv_F} {V q d fo rs fi se pa sc tx vs : Nat} {fd kp1 mp mp1 : Int → Nat} {kq1 : Int → Int → Nat} {u' : Int} {P' : Int → Int → Int} {m' : Int → Int} (hve : sv_K4 S r1 V q d fi se pa sc) (hmo : sv_K1 S r1 q kp1) (hre : sv_K2 S r1 d fo rs fd) (hsc : sv_K3 S r1 sc tx vs) (hh : sv_HI S r1 V q fi se sc tx vs rs fd pa mp1 kq1) (hu : f1 V 2 = u') (hpv : ∀ i, 0 ≤ i → i < u' → sv_V1 f1 (mp1 i) (kq1 i) (P' i)) (hpw : ∀ i, 0 ≤ i → i < u' → sp_wt (P' i) ∧ sp_wg (P' i)) (hu6 : u' ≤ 6) (hs : f1 sc 1 = f sc 1) (ht : f1 tx = f tx) (hpm : ∀ i, 0 ≤ i → i < 6 → ∃ j, 0 ≤ j ∧ j < 6 ∧ mp1 i = mp j) (hff : ∀ N, sv_bd N V q fi se sc tx vs rs pa fd mp → ∀ x, N ≤ x → f1 x = f x ∧ ((S.2 x).1 ≠ 9 → r1 x = r x)) (hp : sv_sep V q fi se sc tx vs rs fd) (hout : ∀ x, (x < q ∨ q + 64 ≤ x) → x ≠ fi → x ≠ se → x ≠ rs → (∀ p, 0 ≤ p → p < 20 → x ≠ fd p) → x ≠ vs → f2 x = f1 x) (hmv2 : sv_V1 f2 q kp1 m') : sv_NX S V q d fo rs fi se pa sc tx vs fd mp r f m' u' P' f2 r1 := by
  obtain ⟨h1, h2, h3, ⟨x1, x2, x3, x4, x5⟩, ⟨b1, b2, b3, b4⟩, ⟨c1, c2, c3⟩, ⟨d1, d2⟩, e⟩ := hp
  have hV := h1 V (by simp)
  have hS := h1 sc (by simp)
  have hT := h1 tx (by simp)
  refine ⟨kp1, mp1, kq1, hve, hmo, hre, hsc, hh, hmv2, ?_, fun i i0 i1 => ?_, ?_, ?_, fun N hN => ⟨⟨hN.1, hN.2.1, fun i i0 i1 => ?_⟩, fun x hx => ?_⟩⟩
  · rw [hout V hV.1 x4 x5 hV.2.1 hV.2.2 x3]; exact hu
  · have hx := hh.x i0 (by omega : i < 6)
    have hq := hh.g i0 (by omega : i < 6)
    have hf := hh.p i0 (by omega : i < 6)
    have hfi := hx fi (by simp)
    have hse := hx se (by simp)
    have hrs := hx rs (by simp)
    have hvs := hx vs (by simp)
    exact sv_V1.congr (hh.o i0 (by omega)) (hpw i i0 i1).1.c (hpv i i0 i1) fun x x0 x1 => hout x (by omega) (by omega) (by omega) (by omega) (fun p p0 p1 => by have := hf p p0 p1; omega) (by omega)
  · rw [hout sc hS.1 b3 b4 hS.2.1 hS.2.2 b2]; exact hs
  · rw [hout tx hT.1 c2 c3 hT.2.1 hT.2.2 c1]; exact ht
  · obtain ⟨j, j0, j1, j2⟩ := hpm i i0 i1
    have := hN.2.2 j j0 j1; omega
  · obtain ⟨y1, y2⟩ := hff N hN x hx
    obtain ⟨⟨n1, n2, n3, n4, n5, n6, n7, n8, n9⟩, n10, -⟩ := hN
    exact ⟨by rw [hout x (by omega) (by omega) (by omega) (by omega) (fun p p0 p1 => by have := n10 p p0 p1; omega) (by omega)]; exact y1, y2⟩
theorem sv_V2.congr {f f' : sv_F} {rs : Nat} {fd : Int → Nat} {m : Int → Int} {n : Int} (hc : 0 ≤ n ∧ n ≤ 20) (h1 : f' rs = f rs) (h2 : ∀ p, 0 ≤ p → p < 20 → f' (fd p) = f (fd p)) (h : sv_V2 f rs fd m n) : sv_V2 f' rs fd m n := by
  intro p p0 p1
  rw [h1, h2 p p0 (by omega)]
  exact h p p0 p1
set_option maxRecDepth 100000 in
set_option maxHeartbeats 4000000 in
theorem c_X4_set {X : sv_X} {S : sv_S} {f : sv_F} {r : sv_R} {g : sv_G} {V q d fo rs fi se pa sc : Nat} {kp fd : Int → Nat} {m : Int → Int} (hve : sv_K4 S r V q d fi se pa sc) (hmo : sv_K1 S r q kp) (hmv : sv_V1 f q kp m) (hre : sv_K2 S r d fo rs fd) (hw : sp_wt m) {tx vs : Nat} (hsc : sv_K3 S r sc tx vs) (hp : sv_sep V q fi se sc tx vs rs fd) {mp : Int → Nat} {kq : Int → Int → Nat} {P : Int → Int → Int} {u : Int} (hh : sv_HI S r V q fi se sc tx vs rs fd pa mp kq) (hu : 0 ≤ u ∧ u ≤ 6) (hVu : f V 2 = u) (hpv : ∀ i, 0 ≤ i → i < u → sv_V1 f (mp i) (kq i) (P i)) (hpw : ∀ i, 0 ≤ i → i < u → sp_wt (P i) ∧ sp_wg (P i)) (hg : sp_wg m) (w v : Int) (hwi : sv_in w) (hv : sv_in v) : sv_C X 4 MX4_set 0 0 [sv_r V, sv_i w, sv_i v] S f r g (sv_qk (fun a f' r' => ((¬ (0 ≤ w ∧ w ≤ 1) ∨ ¬ ((if w = 0 then 1 else 0) ≤ v ∧ v ≤ (if w = 0 then 8 else 1))) ∧ a = -2 ∧ f' = f ∧ r' = r) ∨ (¬ (¬ (0 ≤ w ∧ w ≤ 1) ∨ ¬ ((if w = 0 then 1 else 0) ≤ v ∧ v ≤ (if w = 0 then 8 else 1))) ∧ a = m (596 + w) ∧ (sv_NX S V q d fo rs fi se pa sc tx vs fd mp r f (sp_up m (596 + w) v) (sp_ku u) (sp_kP m P u) f' r'))) S g) := by
  refine sv_met (by decide) (by simp [lg_sl, sv_cv, va_rf, Value.category]) ?_
  refine sv_fr fun hin => ?_
  have hcc := hw.c
  have hgf := hg.f
  refine sv_iload_n (i := 1) dX4_set_0 rfl rfl ?_
  refine sv_if_lt (tgt := 9) dX4_set_1 (by decide) (by first | omega | exact hin _ _ | decide | (simp [sv_u, sv_row]; omega) | (simp [sv_u, sv_row]; exact hin _ _) | exact hin1 _ _ | (simp [sv_u, sv_row]; exact hin1 _ _)) (fun h_1 => ?_) (fun h_1 => ?_)
  · refine sv_bipush dX4_set_9 (by decide) ?_
    refine sv_ireturn dX4_set_11 rfl ?_
    exact ⟨_, rfl, rfl, rfl, Or.inl ⟨Or.inl (by omega), rfl, rfl, rfl⟩⟩
  · refine sv_iload_n (i := 1) dX4_set_4 rfl rfl ?_
    refine sv_iconst dX4_set_5 ?_
    refine sv_icmp_lt (tgt := 12) dX4_set_6 (by decide) (by first | omega | exact hin _ _ | decide | (simp [sv_u, sv_row]; omega) | (simp [sv_u, sv_row]; exact hin _ _) | exact hin1 _ _ | (simp [sv_u, sv_row]; exact hin1 _ _)) (by first | omega | exact hin _ _ | decide | (simp [sv_u, sv_row]; omega) | (simp [sv_u, sv_row]; exact hin _ _) | exact hin1 _ _ | (simp [sv_u, sv_row]; exact hin1 _ _)) (fun h_6 => ?_) (fun h_6 => ?_)
    · refine sv_iload_n (i := 1) dX4_set_12 rfl rfl ?_
      refine sv_if_ne (tgt := 20) dX4_set_13 (by decide) (by first | omega | exact hin _ _ | decide | (simp [sv_u, sv_row]; omega) | (simp [sv_u, sv_row]; exact hin _ _) | exact hin1 _ _ | (simp [sv_u, sv_row]; exact hin1 _ _)) (fun h_13 => ?_) (fun h_13 => ?_)
      · refine sv_iconst dX4_set_20 ?_
        refine sv_istore_n (i := 3) dX4_set_21 rfl (by decide) rfl ?_
        refine sv_iload_n (i := 1) dX4_set_22 rfl rfl ?_
        refine sv_if_ne (tgt := 31) dX4_set_23 (by decide) (by first | omega | exact hin _ _ | decide | (simp [sv_u, sv_row]; omega) | (simp [sv_u, sv_row]; exact hin _ _) | exact hin1 _ _ | (simp [sv_u, sv_row]; exact hin1 _ _)) (fun h_23 => ?_) (fun h_23 => ?_)
        · refine sv_iconst dX4_set_31 ?_
          refine sv_istore dX4_set_32 (by decide) rfl ?_
          refine sv_iload_n (i := 2) dX4_set_34 rfl rfl ?_
          refine sv_iload_n (i := 3) dX4_set_35 rfl rfl ?_
          refine sv_icmp_lt (tgt := 45) dX4_set_36 (by decide) (by first | omega | exact hin _ _ | decide | (simp [sv_u, sv_row]; omega) | (simp [sv_u, sv_row]; exact hin _ _) | exact hin1 _ _ | (simp [sv_u, sv_row]; exact hin1 _ _)) (by first | omega | exact hin _ _ | decide | (simp [sv_u, sv_row]; omega) | (simp [sv_u, sv_row]; exact hin _ _) | exact hin1 _ _ | (simp [sv_u, sv_row]; exact hin1 _ _)) (fun h_36 => ?_) (fun h_36 => ?_)
          · refine sv_bipush dX4_set_45 (by decide) ?_
            refine sv_ireturn dX4_set_47 rfl ?_
            first
            | exact ⟨_, rfl, rfl, rfl, Or.inl ⟨Or.inr (by rw [if_pos (by assumption), if_pos (by assumption)]; omega), rfl, rfl, rfl⟩⟩
            | exact ⟨_, rfl, rfl, rfl, Or.inl ⟨Or.inr (by rw [if_neg (by assumption), if_neg (by assumption)]; omega), rfl, rfl, rfl⟩⟩
          · refine sv_iload_n (i := 2) dX4_set_39 rfl rfl ?_
            refine sv_iload dX4_set_40 rfl ?_
            refine sv_icmp_le (tgt := 48) dX4_set_42 (by decide) (by first | omega | exact hin _ _ | decide | (simp [sv_u, sv_row]; omega) | (simp [sv_u, sv_row]; exact hin _ _) | exact hin1 _ _ | (simp [sv_u, sv_row]; exact hin1 _ _)) (by first | omega | exact hin _ _ | decide | (simp [sv_u, sv_row]; omega) | (simp [sv_u, sv_row]; exact hin _ _) | exact hin1 _ _ | (simp [sv_u, sv_row]; exact hin1 _ _)) (fun h_42 => ?_) (fun h_42 => ?_)
            · refine sv_aload_n (i := 0) dX4_set_48 rfl rfl ?_
              refine sv_vh0 (As := []) clX4_65 dX4_set_49 ⟨_, rfl, rfl⟩ (by decide) rfl (Nat.le_of_ble_eq_true rfl) (by decide) (by decide) hve.lt hve.k (c_X4_remember hve hmo hmv hre hw hsc hp hh hu hVu hpv hpw hg) (fun f1 r1 hrm => ?_)
              obtain ⟨mp1, kq1, hh1, hrk, hV2, hhk, hpv1, hpm1⟩ := hrm
              have hve := hve.rk hrk
              have hmo := hmo.rk hrk
              have hre := hre.rk hrk
              have hsc := hsc.rk hrk
              have hVx := (hp.1 V (by simp)).1
              have hmv1 : sv_V1 f1 q kp m := sv_V1.congr hmo hcc hmv fun x x0 x1 => hh1.of hhk (by omega) (Or.inl ⟨x0, x1⟩)
              have hsc1 : f1 sc = f sc := hh1.of hhk (Ne.symm hp.2.2.2.1.1) (by simp)
              have htx1 : f1 tx = f tx := hh1.of hhk (Ne.symm hp.2.2.2.1.2.1) (by simp)
              have hpw1 := sp_kP_w hw hg hu hpw
              have hku : sp_ku u ≤ 6 := by unfold sp_ku; split <;> omega
              have hff1 : ∀ N, sv_bd N V q fi se sc tx vs rs pa fd mp → ∀ x, N ≤ x → f1 x = f x ∧ ((S.2 x).1 ≠ 9 → r1 x = r x) := fun N hN x hx => ⟨by
                rw [hhk.2 x (by have := hN.1; omega) (fun i i0 i1 => by obtain ⟨j, j0, j1, j2⟩ := hpm1 i i0 i1; have := hN.2.2 j j0 j1; omega)], hrk x⟩
              refine sv_aload_n (i := 0) dX4_set_52 rfl rfl ?_
              refine sv_getR (kz := 0) flX4_10 dX4_set_53 rfl rfl hve.lt hve.k hve.r0 ?_
              refine sv_getR (kz := 5) flX4_130 dX4_set_56 rfl rfl hmo.lt hmo.k hmo.r2 ?_
              refine sv_iload_n (i := 1) dX4_set_59 rfl rfl ?_
              refine sv_iald dX4_set_60 hmo.l2 hmo.s2 (by omega) ?_
              rw [show f1 (q + 2) w = m (596 + w) by rcases (by omega : w = 0 ∨ w = 1) with e | e <;> subst e <;> first | exact hmv1.lim | exact hmv1.ris]
              refine sv_istore dX4_set_61 (by decide) rfl ?_
              refine sv_aload_n (i := 0) dX4_set_63 rfl rfl ?_
              refine sv_getR (kz := 0) flX4_10 dX4_set_64 rfl rfl hve.lt hve.k hve.r0 ?_
              refine sv_getR (kz := 5) flX4_130 dX4_set_67 rfl rfl hmo.lt hmo.k hmo.r2 ?_
              refine sv_iload_n (i := 1) dX4_set_70 rfl rfl ?_
              refine sv_iload_n (i := 2) dX4_set_71 rfl rfl ?_
              refine sv_iast dX4_set_72 hmo.l2 hmo.s2 (by omega) hv ?_
              refine sv_iload dX4_set_73 rfl ?_
              refine sv_ireturn dX4_set_75 rfl ?_
              refine ⟨_, rfl, rfl, rfl, Or.inr ⟨by split <;> omega, rfl, sv_NX.of hve hmo hre hsc hh1 hV2 hpv1 hpw1 hku (by rw [hsc1]) htx1 hpm1 hff1 hp (fun x x0 _ _ _ _ _ => sv_u_ne (by omega)) (sv_V1.game hmo hmv1 hw (fun x x0 x1 => sv_u_ne (by omega)) (fun j j0 j1 => by unfold sp_up; rw [if_neg (by omega)]) ?_ ?_ (by rw [sv_u_ne (by omega)]) (by rw [sv_u_ne (by omega)]) (fun j j0 j1 => ?_) ?_ ?_)⟩⟩
              · rw [sv_u_ne (by omega)]; unfold sp_up; rw [if_neg (by omega)]; exact hmv1.form
              · rw [sv_u_ne (by omega)]; unfold sp_up; rw [if_neg (by omega)]; exact hmv1.orig
              · unfold sp_up at j1 ⊢
                rw [if_neg (by omega)] at j1
                rw [sv_u_ne (by omega), if_neg (by omega)]; exact hmv1.val j0 j1
              · unfold sp_up sv_u
                by_cases e : w = 0
                · subst e; simp
                · rw [if_neg (by omega), if_neg (by omega)]; exact hmv1.lim
              · unfold sp_up sv_u
                by_cases e : w = 1
                · subst e; simp
                · rw [if_neg (by omega), if_neg (by omega)]; exact hmv1.ris
            · refine sv_bipush dX4_set_45 (by decide) ?_
              refine sv_ireturn dX4_set_47 rfl ?_
              first
              | exact ⟨_, rfl, rfl, rfl, Or.inl ⟨Or.inr (by rw [if_pos (by assumption), if_pos (by assumption)]; omega), rfl, rfl, rfl⟩⟩
              | exact ⟨_, rfl, rfl, rfl, Or.inl ⟨Or.inr (by rw [if_neg (by assumption), if_neg (by assumption)]; omega), rfl, rfl, rfl⟩⟩
        · refine sv_bipush dX4_set_26 (by decide) ?_
          refine sv_goto (tgt := 32) dX4_set_28 (by decide) ?_
          refine sv_istore dX4_set_32 (by decide) rfl ?_
          refine sv_iload_n (i := 2) dX4_set_34 rfl rfl ?_
          refine sv_iload_n (i := 3) dX4_set_35 rfl rfl ?_
          refine sv_icmp_lt (tgt := 45) dX4_set_36 (by decide) (by first | omega | exact hin _ _ | decide | (simp [sv_u, sv_row]; omega) | (simp [sv_u, sv_row]; exact hin _ _) | exact hin1 _ _ | (simp [sv_u, sv_row]; exact hin1 _ _)) (by first | omega | exact hin _ _ | decide | (simp [sv_u, sv_row]; omega) | (simp [sv_u, sv_row]; exact hin _ _) | exact hin1 _ _ | (simp [sv_u, sv_row]; exact hin1 _ _)) (fun h_36 => ?_) (fun h_36 => ?_)
          · refine sv_bipush dX4_set_45 (by decide) ?_
            refine sv_ireturn dX4_set_47 rfl ?_
            first
            | exact ⟨_, rfl, rfl, rfl, Or.inl ⟨Or.inr (by rw [if_pos (by assumption), if_pos (by assumption)]; omega), rfl, rfl, rfl⟩⟩
            | exact ⟨_, rfl, rfl, rfl, Or.inl ⟨Or.inr (by rw [if_neg (by assumption), if_neg (by assumption)]; omega), rfl, rfl, rfl⟩⟩
          · refine sv_iload_n (i := 2) dX4_set_39 rfl rfl ?_
            refine sv_iload dX4_set_40 rfl ?_
            refine sv_icmp_le (tgt := 48) dX4_set_42 (by decide) (by first | omega | exact hin _ _ | decide | (simp [sv_u, sv_row]; omega) | (simp [sv_u, sv_row]; exact hin _ _) | exact hin1 _ _ | (simp [sv_u, sv_row]; exact hin1 _ _)) (by first | omega | exact hin _ _ | decide | (simp [sv_u, sv_row]; omega) | (simp [sv_u, sv_row]; exact hin _ _) | exact hin1 _ _ | (simp [sv_u, sv_row]; exact hin1 _ _)) (fun h_42 => ?_) (fun h_42 => ?_)
            · refine sv_aload_n (i := 0) dX4_set_48 rfl rfl ?_
              refine sv_vh0 (As := []) clX4_65 dX4_set_49 ⟨_, rfl, rfl⟩ (by decide) rfl (Nat.le_of_ble_eq_true rfl) (by decide) (by decide) hve.lt hve.k (c_X4_remember hve hmo hmv hre hw hsc hp hh hu hVu hpv hpw hg) (fun f1 r1 hrm => ?_)
              obtain ⟨mp1, kq1, hh1, hrk, hV2, hhk, hpv1, hpm1⟩ := hrm
              have hve := hve.rk hrk
              have hmo := hmo.rk hrk
              have hre := hre.rk hrk
              have hsc := hsc.rk hrk
              have hVx := (hp.1 V (by simp)).1
              have hmv1 : sv_V1 f1 q kp m := sv_V1.congr hmo hcc hmv fun x x0 x1 => hh1.of hhk (by omega) (Or.inl ⟨x0, x1⟩)
              have hsc1 : f1 sc = f sc := hh1.of hhk (Ne.symm hp.2.2.2.1.1) (by simp)
              have htx1 : f1 tx = f tx := hh1.of hhk (Ne.symm hp.2.2.2.1.2.1) (by simp)
              have hpw1 := sp_kP_w hw hg hu hpw
              have hku : sp_ku u ≤ 6 := by unfold sp_ku; split <;> omega
              have hff1 : ∀ N, sv_bd N V q fi se sc tx vs rs pa fd mp → ∀ x, N ≤ x → f1 x = f x ∧ ((S.2 x).1 ≠ 9 → r1 x = r x) := fun N hN x hx => ⟨by
                rw [hhk.2 x (by have := hN.1; omega) (fun i i0 i1 => by obtain ⟨j, j0, j1, j2⟩ := hpm1 i i0 i1; have := hN.2.2 j j0 j1; omega)], hrk x⟩
              refine sv_aload_n (i := 0) dX4_set_52 rfl rfl ?_
              refine sv_getR (kz := 0) flX4_10 dX4_set_53 rfl rfl hve.lt hve.k hve.r0 ?_
              refine sv_getR (kz := 5) flX4_130 dX4_set_56 rfl rfl hmo.lt hmo.k hmo.r2 ?_
              refine sv_iload_n (i := 1) dX4_set_59 rfl rfl ?_
              refine sv_iald dX4_set_60 hmo.l2 hmo.s2 (by omega) ?_
              rw [show f1 (q + 2) w = m (596 + w) by rcases (by omega : w = 0 ∨ w = 1) with e | e <;> subst e <;> first | exact hmv1.lim | exact hmv1.ris]
              refine sv_istore dX4_set_61 (by decide) rfl ?_
              refine sv_aload_n (i := 0) dX4_set_63 rfl rfl ?_
              refine sv_getR (kz := 0) flX4_10 dX4_set_64 rfl rfl hve.lt hve.k hve.r0 ?_
              refine sv_getR (kz := 5) flX4_130 dX4_set_67 rfl rfl hmo.lt hmo.k hmo.r2 ?_
              refine sv_iload_n (i := 1) dX4_set_70 rfl rfl ?_
              refine sv_iload_n (i := 2) dX4_set_71 rfl rfl ?_
              refine sv_iast dX4_set_72 hmo.l2 hmo.s2 (by omega) hv ?_
              refine sv_iload dX4_set_73 rfl ?_
              refine sv_ireturn dX4_set_75 rfl ?_
              refine ⟨_, rfl, rfl, rfl, Or.inr ⟨by split <;> omega, rfl, sv_NX.of hve hmo hre hsc hh1 hV2 hpv1 hpw1 hku (by rw [hsc1]) htx1 hpm1 hff1 hp (fun x x0 _ _ _ _ _ => sv_u_ne (by omega)) (sv_V1.game hmo hmv1 hw (fun x x0 x1 => sv_u_ne (by omega)) (fun j j0 j1 => by unfold sp_up; rw [if_neg (by omega)]) ?_ ?_ (by rw [sv_u_ne (by omega)]) (by rw [sv_u_ne (by omega)]) (fun j j0 j1 => ?_) ?_ ?_)⟩⟩
              · rw [sv_u_ne (by omega)]; unfold sp_up; rw [if_neg (by omega)]; exact hmv1.form
              · rw [sv_u_ne (by omega)]; unfold sp_up; rw [if_neg (by omega)]; exact hmv1.orig
              · unfold sp_up at j1 ⊢
                rw [if_neg (by omega)] at j1
                rw [sv_u_ne (by omega), if_neg (by omega)]; exact hmv1.val j0 j1
              · unfold sp_up sv_u
                by_cases e : w = 0
                · subst e; simp
                · rw [if_neg (by omega), if_neg (by omega)]; exact hmv1.lim
              · unfold sp_up sv_u
                by_cases e : w = 1
                · subst e; simp
                · rw [if_neg (by omega), if_neg (by omega)]; exact hmv1.ris
            · refine sv_bipush dX4_set_45 (by decide) ?_
              refine sv_ireturn dX4_set_47 rfl ?_
              first
              | exact ⟨_, rfl, rfl, rfl, Or.inl ⟨Or.inr (by rw [if_pos (by assumption), if_pos (by assumption)]; omega), rfl, rfl, rfl⟩⟩
              | exact ⟨_, rfl, rfl, rfl, Or.inl ⟨Or.inr (by rw [if_neg (by assumption), if_neg (by assumption)]; omega), rfl, rfl, rfl⟩⟩
      · refine sv_iconst dX4_set_16 ?_
        refine sv_goto (tgt := 21) dX4_set_17 (by decide) ?_
        refine sv_istore_n (i := 3) dX4_set_21 rfl (by decide) rfl ?_
        refine sv_iload_n (i := 1) dX4_set_22 rfl rfl ?_
        refine sv_if_ne (tgt := 31) dX4_set_23 (by decide) (by first | omega | exact hin _ _ | decide | (simp [sv_u, sv_row]; omega) | (simp [sv_u, sv_row]; exact hin _ _) | exact hin1 _ _ | (simp [sv_u, sv_row]; exact hin1 _ _)) (fun h_23 => ?_) (fun h_23 => ?_)
        · refine sv_iconst dX4_set_31 ?_
          refine sv_istore dX4_set_32 (by decide) rfl ?_
          refine sv_iload_n (i := 2) dX4_set_34 rfl rfl ?_
          refine sv_iload_n (i := 3) dX4_set_35 rfl rfl ?_
          refine sv_icmp_lt (tgt := 45) dX4_set_36 (by decide) (by first | omega | exact hin _ _ | decide | (simp [sv_u, sv_row]; omega) | (simp [sv_u, sv_row]; exact hin _ _) | exact hin1 _ _ | (simp [sv_u, sv_row]; exact hin1 _ _)) (by first | omega | exact hin _ _ | decide | (simp [sv_u, sv_row]; omega) | (simp [sv_u, sv_row]; exact hin _ _) | exact hin1 _ _ | (simp [sv_u, sv_row]; exact hin1 _ _)) (fun h_36 => ?_) (fun h_36 => ?_)
          · refine sv_bipush dX4_set_45 (by decide) ?_
            refine sv_ireturn dX4_set_47 rfl ?_
            first
            | exact ⟨_, rfl, rfl, rfl, Or.inl ⟨Or.inr (by rw [if_pos (by assumption), if_pos (by assumption)]; omega), rfl, rfl, rfl⟩⟩
            | exact ⟨_, rfl, rfl, rfl, Or.inl ⟨Or.inr (by rw [if_neg (by assumption), if_neg (by assumption)]; omega), rfl, rfl, rfl⟩⟩
          · refine sv_iload_n (i := 2) dX4_set_39 rfl rfl ?_
            refine sv_iload dX4_set_40 rfl ?_
            refine sv_icmp_le (tgt := 48) dX4_set_42 (by decide) (by first | omega | exact hin _ _ | decide | (simp [sv_u, sv_row]; omega) | (simp [sv_u, sv_row]; exact hin _ _) | exact hin1 _ _ | (simp [sv_u, sv_row]; exact hin1 _ _)) (by first | omega | exact hin _ _ | decide | (simp [sv_u, sv_row]; omega) | (simp [sv_u, sv_row]; exact hin _ _) | exact hin1 _ _ | (simp [sv_u, sv_row]; exact hin1 _ _)) (fun h_42 => ?_) (fun h_42 => ?_)
            · refine sv_aload_n (i := 0) dX4_set_48 rfl rfl ?_
              refine sv_vh0 (As := []) clX4_65 dX4_set_49 ⟨_, rfl, rfl⟩ (by decide) rfl (Nat.le_of_ble_eq_true rfl) (by decide) (by decide) hve.lt hve.k (c_X4_remember hve hmo hmv hre hw hsc hp hh hu hVu hpv hpw hg) (fun f1 r1 hrm => ?_)
              obtain ⟨mp1, kq1, hh1, hrk, hV2, hhk, hpv1, hpm1⟩ := hrm
              have hve := hve.rk hrk
              have hmo := hmo.rk hrk
              have hre := hre.rk hrk
              have hsc := hsc.rk hrk
              have hVx := (hp.1 V (by simp)).1
              have hmv1 : sv_V1 f1 q kp m := sv_V1.congr hmo hcc hmv fun x x0 x1 => hh1.of hhk (by omega) (Or.inl ⟨x0, x1⟩)
              have hsc1 : f1 sc = f sc := hh1.of hhk (Ne.symm hp.2.2.2.1.1) (by simp)
              have htx1 : f1 tx = f tx := hh1.of hhk (Ne.symm hp.2.2.2.1.2.1) (by simp)
              have hpw1 := sp_kP_w hw hg hu hpw
              have hku : sp_ku u ≤ 6 := by unfold sp_ku; split <;> omega
              have hff1 : ∀ N, sv_bd N V q fi se sc tx vs rs pa fd mp → ∀ x, N ≤ x → f1 x = f x ∧ ((S.2 x).1 ≠ 9 → r1 x = r x) := fun N hN x hx => ⟨by
                rw [hhk.2 x (by have := hN.1; omega) (fun i i0 i1 => by obtain ⟨j, j0, j1, j2⟩ := hpm1 i i0 i1; have := hN.2.2 j j0 j1; omega)], hrk x⟩
              refine sv_aload_n (i := 0) dX4_set_52 rfl rfl ?_
              refine sv_getR (kz := 0) flX4_10 dX4_set_53 rfl rfl hve.lt hve.k hve.r0 ?_
              refine sv_getR (kz := 5) flX4_130 dX4_set_56 rfl rfl hmo.lt hmo.k hmo.r2 ?_
              refine sv_iload_n (i := 1) dX4_set_59 rfl rfl ?_
              refine sv_iald dX4_set_60 hmo.l2 hmo.s2 (by omega) ?_
              rw [show f1 (q + 2) w = m (596 + w) by rcases (by omega : w = 0 ∨ w = 1) with e | e <;> subst e <;> first | exact hmv1.lim | exact hmv1.ris]
              refine sv_istore dX4_set_61 (by decide) rfl ?_
              refine sv_aload_n (i := 0) dX4_set_63 rfl rfl ?_
              refine sv_getR (kz := 0) flX4_10 dX4_set_64 rfl rfl hve.lt hve.k hve.r0 ?_
              refine sv_getR (kz := 5) flX4_130 dX4_set_67 rfl rfl hmo.lt hmo.k hmo.r2 ?_
              refine sv_iload_n (i := 1) dX4_set_70 rfl rfl ?_
              refine sv_iload_n (i := 2) dX4_set_71 rfl rfl ?_
              refine sv_iast dX4_set_72 hmo.l2 hmo.s2 (by omega) hv ?_
              refine sv_iload dX4_set_73 rfl ?_
              refine sv_ireturn dX4_set_75 rfl ?_
              refine ⟨_, rfl, rfl, rfl, Or.inr ⟨by split <;> omega, rfl, sv_NX.of hve hmo hre hsc hh1 hV2 hpv1 hpw1 hku (by rw [hsc1]) htx1 hpm1 hff1 hp (fun x x0 _ _ _ _ _ => sv_u_ne (by omega)) (sv_V1.game hmo hmv1 hw (fun x x0 x1 => sv_u_ne (by omega)) (fun j j0 j1 => by unfold sp_up; rw [if_neg (by omega)]) ?_ ?_ (by rw [sv_u_ne (by omega)]) (by rw [sv_u_ne (by omega)]) (fun j j0 j1 => ?_) ?_ ?_)⟩⟩
              · rw [sv_u_ne (by omega)]; unfold sp_up; rw [if_neg (by omega)]; exact hmv1.form
              · rw [sv_u_ne (by omega)]; unfold sp_up; rw [if_neg (by omega)]; exact hmv1.orig
              · unfold sp_up at j1 ⊢
                rw [if_neg (by omega)] at j1
                rw [sv_u_ne (by omega), if_neg (by omega)]; exact hmv1.val j0 j1
              · unfold sp_up sv_u
                by_cases e : w = 0
                · subst e; simp
                · rw [if_neg (by omega), if_neg (by omega)]; exact hmv1.lim
              · unfold sp_up sv_u
                by_cases e : w = 1
                · subst e; simp
                · rw [if_neg (by omega), if_neg (by omega)]; exact hmv1.ris
            · refine sv_bipush dX4_set_45 (by decide) ?_
              refine sv_ireturn dX4_set_47 rfl ?_
              first
              | exact ⟨_, rfl, rfl, rfl, Or.inl ⟨Or.inr (by rw [if_pos (by assumption), if_pos (by assumption)]; omega), rfl, rfl, rfl⟩⟩
              | exact ⟨_, rfl, rfl, rfl, Or.inl ⟨Or.inr (by rw [if_neg (by assumption), if_neg (by assumption)]; omega), rfl, rfl, rfl⟩⟩
        · refine sv_bipush dX4_set_26 (by decide) ?_
          refine sv_goto (tgt := 32) dX4_set_28 (by decide) ?_
          refine sv_istore dX4_set_32 (by decide) rfl ?_
          refine sv_iload_n (i := 2) dX4_set_34 rfl rfl ?_
          refine sv_iload_n (i := 3) dX4_set_35 rfl rfl ?_
          refine sv_icmp_lt (tgt := 45) dX4_set_36 (by decide) (by first | omega | exact hin _ _ | decide | (simp [sv_u, sv_row]; omega) | (simp [sv_u, sv_row]; exact hin _ _) | exact hin1 _ _ | (simp [sv_u, sv_row]; exact hin1 _ _)) (by first | omega | exact hin _ _ | decide | (simp [sv_u, sv_row]; omega) | (simp [sv_u, sv_row]; exact hin _ _) | exact hin1 _ _ | (simp [sv_u, sv_row]; exact hin1 _ _)) (fun h_36 => ?_) (fun h_36 => ?_)
          · refine sv_bipush dX4_set_45 (by decide) ?_
            refine sv_ireturn dX4_set_47 rfl ?_
            first
            | exact ⟨_, rfl, rfl, rfl, Or.inl ⟨Or.inr (by rw [if_pos (by assumption), if_pos (by assumption)]; omega), rfl, rfl, rfl⟩⟩
            | exact ⟨_, rfl, rfl, rfl, Or.inl ⟨Or.inr (by rw [if_neg (by assumption), if_neg (by assumption)]; omega), rfl, rfl, rfl⟩⟩
          · refine sv_iload_n (i := 2) dX4_set_39 rfl rfl ?_
            refine sv_iload dX4_set_40 rfl ?_
            refine sv_icmp_le (tgt := 48) dX4_set_42 (by decide) (by first | omega | exact hin _ _ | decide | (simp [sv_u, sv_row]; omega) | (simp [sv_u, sv_row]; exact hin _ _) | exact hin1 _ _ | (simp [sv_u, sv_row]; exact hin1 _ _)) (by first | omega | exact hin _ _ | decide | (simp [sv_u, sv_row]; omega) | (simp [sv_u, sv_row]; exact hin _ _) | exact hin1 _ _ | (simp [sv_u, sv_row]; exact hin1 _ _)) (fun h_42 => ?_) (fun h_42 => ?_)
            · refine sv_aload_n (i := 0) dX4_set_48 rfl rfl ?_
              refine sv_vh0 (As := []) clX4_65 dX4_set_49 ⟨_, rfl, rfl⟩ (by decide) rfl (Nat.le_of_ble_eq_true rfl) (by decide) (by decide) hve.lt hve.k (c_X4_remember hve hmo hmv hre hw hsc hp hh hu hVu hpv hpw hg) (fun f1 r1 hrm => ?_)
              obtain ⟨mp1, kq1, hh1, hrk, hV2, hhk, hpv1, hpm1⟩ := hrm
              have hve := hve.rk hrk
              have hmo := hmo.rk hrk
              have hre := hre.rk hrk
              have hsc := hsc.rk hrk
              have hVx := (hp.1 V (by simp)).1
              have hmv1 : sv_V1 f1 q kp m := sv_V1.congr hmo hcc hmv fun x x0 x1 => hh1.of hhk (by omega) (Or.inl ⟨x0, x1⟩)
              have hsc1 : f1 sc = f sc := hh1.of hhk (Ne.symm hp.2.2.2.1.1) (by simp)
              have htx1 : f1 tx = f tx := hh1.of hhk (Ne.symm hp.2.2.2.1.2.1) (by simp)
              have hpw1 := sp_kP_w hw hg hu hpw
              have hku : sp_ku u ≤ 6 := by unfold sp_ku; split <;> omega
              have hff1 : ∀ N, sv_bd N V q fi se sc tx vs rs pa fd mp → ∀ x, N ≤ x → f1 x = f x ∧ ((S.2 x).1 ≠ 9 → r1 x = r x) := fun N hN x hx => ⟨by
                rw [hhk.2 x (by have := hN.1; omega) (fun i i0 i1 => by obtain ⟨j, j0, j1, j2⟩ := hpm1 i i0 i1; have := hN.2.2 j j0 j1; omega)], hrk x⟩
              refine sv_aload_n (i := 0) dX4_set_52 rfl rfl ?_
              refine sv_getR (kz := 0) flX4_10 dX4_set_53 rfl rfl hve.lt hve.k hve.r0 ?_
              refine sv_getR (kz := 5) flX4_130 dX4_set_56 rfl rfl hmo.lt hmo.k hmo.r2 ?_
              refine sv_iload_n (i := 1) dX4_set_59 rfl rfl ?_
              refine sv_iald dX4_set_60 hmo.l2 hmo.s2 (by omega) ?_
              rw [show f1 (q + 2) w = m (596 + w) by rcases (by omega : w = 0 ∨ w = 1) with e | e <;> subst e <;> first | exact hmv1.lim | exact hmv1.ris]
              refine sv_istore dX4_set_61 (by decide) rfl ?_
              refine sv_aload_n (i := 0) dX4_set_63 rfl rfl ?_
              refine sv_getR (kz := 0) flX4_10 dX4_set_64 rfl rfl hve.lt hve.k hve.r0 ?_
              refine sv_getR (kz := 5) flX4_130 dX4_set_67 rfl rfl hmo.lt hmo.k hmo.r2 ?_
              refine sv_iload_n (i := 1) dX4_set_70 rfl rfl ?_
              refine sv_iload_n (i := 2) dX4_set_71 rfl rfl ?_
              refine sv_iast dX4_set_72 hmo.l2 hmo.s2 (by omega) hv ?_
              refine sv_iload dX4_set_73 rfl ?_
              refine sv_ireturn dX4_set_75 rfl ?_
              refine ⟨_, rfl, rfl, rfl, Or.inr ⟨by split <;> omega, rfl, sv_NX.of hve hmo hre hsc hh1 hV2 hpv1 hpw1 hku (by rw [hsc1]) htx1 hpm1 hff1 hp (fun x x0 _ _ _ _ _ => sv_u_ne (by omega)) (sv_V1.game hmo hmv1 hw (fun x x0 x1 => sv_u_ne (by omega)) (fun j j0 j1 => by unfold sp_up; rw [if_neg (by omega)]) ?_ ?_ (by rw [sv_u_ne (by omega)]) (by rw [sv_u_ne (by omega)]) (fun j j0 j1 => ?_) ?_ ?_)⟩⟩
              · rw [sv_u_ne (by omega)]; unfold sp_up; rw [if_neg (by omega)]; exact hmv1.form
              · rw [sv_u_ne (by omega)]; unfold sp_up; rw [if_neg (by omega)]; exact hmv1.orig
              · unfold sp_up at j1 ⊢
                rw [if_neg (by omega)] at j1
                rw [sv_u_ne (by omega), if_neg (by omega)]; exact hmv1.val j0 j1
              · unfold sp_up sv_u
                by_cases e : w = 0
                · subst e; simp
                · rw [if_neg (by omega), if_neg (by omega)]; exact hmv1.lim
              · unfold sp_up sv_u
                by_cases e : w = 1
                · subst e; simp
                · rw [if_neg (by omega), if_neg (by omega)]; exact hmv1.ris
            · refine sv_bipush dX4_set_45 (by decide) ?_
              refine sv_ireturn dX4_set_47 rfl ?_
              first
              | exact ⟨_, rfl, rfl, rfl, Or.inl ⟨Or.inr (by rw [if_pos (by assumption), if_pos (by assumption)]; omega), rfl, rfl, rfl⟩⟩
              | exact ⟨_, rfl, rfl, rfl, Or.inl ⟨Or.inr (by rw [if_neg (by assumption), if_neg (by assumption)]; omega), rfl, rfl, rfl⟩⟩
    · refine sv_bipush dX4_set_9 (by decide) ?_
      refine sv_ireturn dX4_set_11 rfl ?_
      exact ⟨_, rfl, rfl, rfl, Or.inl ⟨Or.inl (by omega), rfl, rfl, rfl⟩⟩
set_option maxRecDepth 100000 in
set_option maxHeartbeats 4000000 in
theorem c_X4_undo {X : sv_X} {S : sv_S} {f : sv_F} {r : sv_R} {g : sv_G} {V q d fo rs fi se pa sc : Nat} {kp fd : Int → Nat} {m : Int → Int} (hve : sv_K4 S r V q d fi se pa sc) (hmo : sv_K1 S r q kp) (hmv : sv_V1 f q kp m) (hre : sv_K2 S r d fo rs fd) (hw : sp_wt m) {tx vs : Nat} (hsc : sv_K3 S r sc tx vs) (hp : sv_sep V q fi se sc tx vs rs fd) {mp : Int → Nat} {kq : Int → Int → Nat} {P : Int → Int → Int} {u : Int} (hh : sv_HI S r V q fi se sc tx vs rs fd pa mp kq) (hu : 0 ≤ u ∧ u ≤ 6) (hVu : f V 2 = u) (hpv : ∀ i, 0 ≤ i → i < u → sv_V1 f (mp i) (kq i) (P i)) (hpw : ∀ i, 0 ≤ i → i < u → sp_wt (P i) ∧ sp_wg (P i)) (hg : sp_wg m)  : sv_C X 3 MX4_undo 0 0 [sv_r V] S f r g (sv_qk (fun a f' r' => (u = 0 ∧ a = -3 ∧ f' = f ∧ r' = r) ∨ (1 ≤ u ∧ a = u - 1 ∧ (sv_NX S V q d fo rs fi se pa sc tx vs fd mp r f (P (u - 1)) (u - 1) P f' r'))) S g) := by
  refine sv_met (by decide) (by simp [lg_sl, sv_cv, va_rf, Value.category]) ?_
  refine sv_fr fun hin => ?_
  have hcc := hw.c
  have hgf := hg.f
  have hVx := (hp.1 V (by simp)).1
  refine sv_aload_n (i := 0) dX4_undo_0 rfl rfl ?_
  refine sv_getI (kz := 2) flX4_20 dX4_undo_1 rfl rfl hve.lt hve.k ?_
  rw [hVu]
  refine sv_if_gt (tgt := 10) dX4_undo_4 (by decide) (by first | omega | exact hin _ _ | decide | (simp [sv_u, sv_row]; omega) | (simp [sv_u, sv_row]; exact hin _ _) | exact hin1 _ _ | (simp [sv_u, sv_row]; exact hin1 _ _)) (fun h_4 => ?_) (fun h_4 => ?_)
  · refine sv_aload_n (i := 0) dX4_undo_10 rfl rfl ?_
    refine sv_dup dX4_undo_11 rfl ?_
    refine sv_getI (kz := 2) flX4_20 dX4_undo_12 rfl rfl hve.lt hve.k ?_
    rw [hVu]
    refine sv_iconst dX4_undo_15 ?_
    refine sv_isub dX4_undo_16 ?_
    refine sv_putI (kz := 2) flX4_20 dX4_undo_17 (Or.inl rfl) rfl rfl hve.lt hve.k (by first | omega | exact hin _ _ | decide | (simp [sv_u, sv_row]; omega) | (simp [sv_u, sv_row]; exact hin _ _) | exact hin1 _ _ | (simp [sv_u, sv_row]; exact hin1 _ _)) ?_
    refine sv_aload_n (i := 0) dX4_undo_20 rfl rfl ?_
    refine sv_getR (kz := 0) flX4_10 dX4_undo_21 rfl rfl hve.lt hve.k hve.r0 ?_
    refine sv_aload_n (i := 0) dX4_undo_24 rfl rfl ?_
    refine sv_getR (kz := 1) flX4_16 dX4_undo_25 rfl rfl hve.lt hve.k hve.r1 ?_
    refine sv_aload_n (i := 0) dX4_undo_28 rfl rfl ?_
    refine sv_getI (kz := 2) flX4_20 dX4_undo_29 rfl rfl hve.lt hve.k ?_
    rw [show sv_u f V 2 (u - 1) V 2 = u - 1 by simp [sv_u]]
    have ho2 := hh.o (i := u - 1) (by omega) (by omega)
    have hxV := hh.x (i := u - 1) (by omega) (by omega) V (by simp)
    have hxq := hh.g (i := u - 1) (by omega) (by omega)
    have hwp := hpw (u - 1) (by omega) (by omega)
    have hmp : sv_V1 (sv_u f V 2 (u - 1)) (mp (u - 1)) (kq (u - 1)) (P (u - 1)) := sv_V1.congr ho2 hwp.1.c (hpv _ (by omega) (by omega)) fun x x0 x1 => sv_u_ne (by omega)
    refine sv_aald (t := 1) (n := 6) dX4_undo_32 hve.l1 (by decide) hve.s1 (by omega) (hh.e (i := u - 1) (by omega) (by omega)) ?_
    refine sv_vv0 (As := [_]) clX4_157 dX4_undo_33 ⟨_, rfl, rfl⟩ (by decide) rfl (Nat.le_of_ble_eq_true rfl) (by decide) (by decide) hmo.lt hmo.k (c_X1_copyFrom hmo ho2 hmp (by omega) hwp.1 hwp.2.f) (fun f2 hf2 => ?_)
    obtain ⟨e1, e2⟩ := hf2
    refine sv_aload_n (i := 0) dX4_undo_36 rfl rfl ?_
    refine sv_getI (kz := 2) flX4_20 dX4_undo_37 rfl rfl hve.lt hve.k ?_
    rw [e1 V hVx, show sv_u f V 2 (u - 1) V 2 = u - 1 by simp [sv_u]]
    refine sv_ireturn dX4_undo_40 rfl ?_
    refine ⟨_, rfl, rfl, rfl, Or.inr ⟨by omega, rfl, sv_NX.of (f1 := sv_u f V 2 (u - 1)) hve hmo hre hsc hh (by simp [sv_u]) (fun i i0 i1 => sv_V1.congr (hh.o i0 (by omega)) (hpw i i0 (by omega)).1.c (hpv i i0 (by omega)) fun x x0 x1 => sv_u_ne (by have := hh.x i0 (by omega : i < 6) V (by simp); omega)) (fun i i0 i1 => hpw i i0 (by omega)) (by omega) (by rw [sv_u_ne (Ne.symm hp.2.2.2.1.1)]) (sv_u_ne (Ne.symm hp.2.2.2.1.2.1)) (fun j j0 j1 => ⟨j, j0, j1, rfl⟩) (fun N hN x hx => ⟨sv_u_ne (by have := hN.1; omega), fun _ => rfl⟩) hp (fun x x0 _ _ _ _ _ => e1 x x0) e2⟩⟩
  · refine sv_bipush dX4_undo_7 (by decide) ?_
    refine sv_ireturn dX4_undo_9 rfl ?_
    exact ⟨_, rfl, rfl, rfl, Or.inl ⟨by omega, rfl, rfl, rfl⟩⟩
