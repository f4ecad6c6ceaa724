set_option maxRecDepth 100000 in
set_option maxHeartbeats 4000000 in
theorem c_X2_readPlace {X : sv_X} {S : sv_S} {f : sv_F} {r : sv_R} {g : sv_G} {q d fo rs : Nat} {kp fd : Int → Nat} {m : Int → Int} (hmo : sv_K1 S r q kp) (hmv : sv_V1 f q kp m) (hre : sv_K2 S r d fo rs fd) (hsp : ∀ p, 0 ≤ p → p < 20 → fd p < q ∨ q + 64 ≤ fd p) (hw : sp_wt m) (s : Int) (hs : 0 ≤ s ∧ s < m 580) (hv2 : sv_V2 f rs fd m s) : sv_C X 2 MX2_readPlace 0 0 [sv_r d, sv_r q, sv_i s] S f r g (sv_qi (fun a f' => a = sp_R m (m (29 * s)) ∧ (∀ x, x ≠ fd s → f' x = f x) ∧ (a = -1 → ∀ j, 0 ≤ j → j < 6 + 2 * m (29 * s + 1) → f' (fd s) j = sp_V m (m (29 * s)) j)) S r g) := by
  refine sv_met (by decide) (by simp [lg_sl, sv_cv, va_rf, Value.category]) ?_
  refine sv_fr fun hin => ?_
  have hcc := hw.c
  have hcm := hw.cm
  have hnm := hw.num hs.1 hs.2
  have hfr := hw.frm hs.1 hs.2
  have hmy := hw.many hs.1 hs.2
  have hsl := hw.slot hs.1 hs.2
  have hbs := hw.bas hs.1 hs.2
  have hk := hmo.o (p := s) (by omega) (by omega)
  have hkb := hmo.b (p := s) (by omega) (by omega)
  have hkv := hmv.o (s := s) (by omega) (by omega)
  have ha := hre.a (p := s) (by omega) (by omega)
  have hss := hsp s (by omega) (by omega)
  have hbse : sp_bs m (m (29 * s)) = m (29 * s + 3) := by unfold sp_bs; rw [hsl, if_neg (by omega)]
  have g90 : ∀ V0 : Int → Int, sp_ok (sp_en V0 (fun i => m (29 * s + (5 + i))) (fun i => m (29 * s + (17 + i))) (m (29 * s + 4)).toNat) (6 + 2 * m (29 * s + 1)) → (∀ j, 0 ≤ j → j < 6 + 2 * m (29 * s + 1) → sp_en V0 (fun i => m (29 * s + (5 + i))) (fun i => m (29 * s + (17 + i))) (m (29 * s + 4)).toNat j = sp_V m (m (29 * s)) j) → (sp_R m (m (29 * s)) = if sp_sm (sp_V m (m (29 * s))) (6 + 2 * m (29 * s + 1)).toNat = m (29 * s + 2) then -1 else 1) → sv_T X (sv_rm 2 0 0) MX2_readPlace (sv_Zm X 0 0 (sv_qi (fun a f' => a = sp_R m (m (29 * s)) ∧ (∀ x, x ≠ fd s → f' x = f x) ∧ (a = -1 → ∀ j, 0 ≤ j → j < 6 + 2 * m (29 * s + 1) → f' (fd s) j = sp_V m (m (29 * s)) j)) S r g)) 0 0 90 [some (sv_r d), some (sv_r q), some (sv_i s), some (sv_r (kp s)), some (sv_r (fd s)), some (sv_i 0)] [] S ((sv_row f (fd s) V0)) r g := by
    intro V0 hok hV hR
    have lp : ∀ (kk : Nat) (i : Nat), m (29 * s + 4) - (i : Int) < (kk : Int) → ((i : Int) ≤ m (29 * s + 4)) → sv_T X (sv_rm 2 0 0) MX2_readPlace (sv_Zm X 0 0 (sv_qi (fun a f' => a = sp_R m (m (29 * s)) ∧ (∀ x, x ≠ fd s → f' x = f x) ∧ (a = -1 → ∀ j, 0 ≤ j → j < 6 + 2 * m (29 * s + 1) → f' (fd s) j = sp_V m (m (29 * s)) j)) S r g)) 0 0 90 [some (sv_r d), some (sv_r q), some (sv_i s), some (sv_r (kp s)), some (sv_r (fd s)), some (sv_i (i : Nat))] [] S ((sv_row f (fd s) (sp_en V0 (fun i => m (29 * s + (5 + i))) (fun i => m (29 * s + (17 + i))) i))) r g := by
      intro kk
      induction kk with
      | zero =>
        intro i hkk h1
        exact absurd hkk (by omega)
      | succ kk ih =>
        intro i hkk h1
        refine sv_iload dX2_readPlace_90 rfl ?_
        refine sv_aload_n (i := 3) dX2_readPlace_92 rfl rfl ?_
        refine sv_getI (kz := 4) flX2_56 dX2_readPlace_93 rfl rfl hk.lt hk.k ?_
        rw [sv_row_ne (by omega), hkv.size]
        refine sv_icmp_ge (tgt := 122) dX2_readPlace_96 (by decide) (by omega) (by omega) (fun h_96 => ?_) (fun h_96 => ?_)
        · have hi : (m (29 * s + 4)).toNat = i := by omega
          rw [hi] at hok hV
          refine sv_aload dX2_readPlace_122 rfl ?_
          refine sv_aload_n (i := 3) dX2_readPlace_124 rfl rfl ?_
          refine sv_getI (kz := 1) flX2_49 dX2_readPlace_125 rfl rfl hk.lt hk.k ?_
          rw [sv_row_ne (by omega), hkv.form]
          refine sv_sp0 (As := [_, _]) clX2_63 dX2_readPlace_128 rfl (Nat.le_of_ble_eq_true rfl) (by decide) (by decide) (c_X4_sumOf ha (by omega) (by rw [sv_row_eq]; exact hok)) ?_
          rw [sv_row_eq]
          refine sv_aload_n (i := 3) dX2_readPlace_131 rfl rfl ?_
          refine sv_getI (kz := 2) flX2_67 dX2_readPlace_132 rfl rfl hk.lt hk.k ?_
          rw [sv_row_ne (by omega), hkv.sum]
          have hsmr := sp_sm_in (sp_en V0 (fun i => m (29 * s + (5 + i))) (fun i => m (29 * s + (17 + i))) i) (6 + 2 * m (29 * s + 1)).toNat
          refine sv_icmp_ne (tgt := 142) dX2_readPlace_135 (by decide) (by omega) (hkv.sum ▸ hin _ _) (fun h_135 => ?_) (fun h_135 => ?_)
          · refine sv_iconst dX2_readPlace_142 ?_
            refine sv_ireturn dX2_readPlace_143 rfl ?_
            have hse : sp_sm (sp_V m (m (29 * s))) (6 + 2 * m (29 * s + 1)).toNat = sp_sm (sp_en V0 (fun i => m (29 * s + (5 + i))) (fun i => m (29 * s + (17 + i))) i) (6 + 2 * m (29 * s + 1)).toNat := sp_sm_congr fun j j0 j1 => (hV j j0 j1).symm
            rw [hse] at hR
            refine ⟨_, rfl, rfl, rfl, rfl, ?_, fun x hx => sv_row_ne hx, fun _ j j0 j1 => by rw [sv_row_eq]; exact hV j j0 j1⟩
            rw [hR]
            first | rw [if_pos (by assumption)] | rw [if_neg (by assumption)]
          · refine sv_iconst dX2_readPlace_138 ?_
            refine sv_goto (tgt := 143) dX2_readPlace_139 (by decide) ?_
            refine sv_ireturn dX2_readPlace_143 rfl ?_
            have hse : sp_sm (sp_V m (m (29 * s))) (6 + 2 * m (29 * s + 1)).toNat = sp_sm (sp_en V0 (fun i => m (29 * s + (5 + i))) (fun i => m (29 * s + (17 + i))) i) (6 + 2 * m (29 * s + 1)).toNat := sp_sm_congr fun j j0 j1 => (hV j j0 j1).symm
            rw [hse] at hR
            refine ⟨_, rfl, rfl, rfl, rfl, ?_, fun x hx => sv_row_ne hx, fun _ j j0 j1 => by rw [sv_row_eq]; exact hV j j0 j1⟩
            rw [hR]
            first | rw [if_pos (by assumption)] | rw [if_neg (by assumption)]
        · have hen := hw.ent hs.1 hs.2 (i := (i : Int)) (by omega) (by omega)
          refine sv_aload dX2_readPlace_99 rfl ?_
          refine sv_aload_n (i := 3) dX2_readPlace_101 rfl rfl ?_
          refine sv_getR (kz := 5) flX2_57 dX2_readPlace_102 rfl rfl hk.lt hk.k hk.r1 ?_
          refine sv_iload dX2_readPlace_105 rfl ?_
          refine sv_iald dX2_readPlace_107 hk.l1 hk.s1 (by omega) ?_
          rw [sv_row_ne (by omega), hkv.idx (by omega) (by omega)]
          refine sv_aload_n (i := 3) dX2_readPlace_108 rfl rfl ?_
          refine sv_getR (kz := 6) flX2_60 dX2_readPlace_109 rfl rfl hk.lt hk.k hk.r2 ?_
          refine sv_iload dX2_readPlace_112 rfl ?_
          refine sv_iald dX2_readPlace_114 hk.l2 hk.s2 (by omega) ?_
          rw [sv_row_ne (by omega), hkv.val (by omega) (by omega)]
          refine sv_iast dX2_readPlace_115 ha.1 ha.2 (by omega) (by first | omega | exact hin _ _ | decide | (simp [sv_u, sv_row]; omega) | (simp [sv_u, sv_row]; exact hin _ _) | exact hin1 _ _ | (simp [sv_u, sv_row]; exact hin1 _ _)) ?_
          refine sv_iinc dX2_readPlace_116 rfl (by decide) rfl ?_
          refine sv_goto (tgt := 90) dX2_readPlace_119 (by decide) ?_
          refine sv_cast (ih (i + 1) (by omega) (by omega)) rfl rfl rfl rfl rfl ?_
          rw [sv_u_row, sv_row_row, sv_row_eq]
          refine congrArg _ ?_
          funext j
          rfl
    exact lp (m (29 * s + 4) + 1).toNat 0 (by omega) (by omega)
  refine sv_aload_n (i := 1) dX2_readPlace_0 rfl rfl ?_
  refine sv_getR (kz := 6) flX2_30 dX2_readPlace_1 rfl rfl hmo.lt hmo.k hmo.r3 ?_
  refine sv_iload_n (i := 2) dX2_readPlace_4 rfl rfl ?_
  refine sv_aald (t := 0) (n := 20) dX2_readPlace_5 hmo.l3 (by decide) hmo.s3 (by omega) (hmo.e (p := s) (by omega) (by omega)) ?_
  refine sv_astore_n (i := 3) dX2_readPlace_6 rfl (by decide) rfl ?_
  refine sv_aload_n (i := 0) dX2_readPlace_7 rfl rfl ?_
  refine sv_getR (kz := 0) flX2_11 dX2_readPlace_8 rfl rfl hre.lt hre.k hre.r1 ?_
  refine sv_iload_n (i := 2) dX2_readPlace_11 rfl rfl ?_
  refine sv_aald (t := 2) (n := 20) dX2_readPlace_12 hre.l1 (by decide) hre.s1 (by omega) (hre.e (p := s) (by omega) (by omega)) ?_
  refine sv_astore dX2_readPlace_13 (by decide) rfl ?_
  refine sv_aload_n (i := 3) dX2_readPlace_15 rfl rfl ?_
  refine sv_getI (kz := 3) flX2_34 dX2_readPlace_16 rfl rfl hk.lt hk.k ?_
  rw [hkv.base]
  refine sv_iconst dX2_readPlace_19 ?_
  refine sv_icmp_eq (tgt := 87) dX2_readPlace_20 (by decide) (by omega) (by first | omega | exact hin _ _ | decide | (simp [sv_u, sv_row]; omega) | (simp [sv_u, sv_row]; exact hin _ _) | exact hin1 _ _ | (simp [sv_u, sv_row]; exact hin1 _ _)) (fun h_20 => ?_) (fun h_20 => ?_)
  · refine sv_iconst dX2_readPlace_87 ?_
    refine sv_istore dX2_readPlace_88 (by decide) rfl ?_
    first
    | (have hb1 : m (29 * s + 3) = -1 := by assumption
       obtain ⟨w1, w2⟩ := hw.whole hs.1 hs.2 hb1
       obtain ⟨y1, y2⟩ := sp_V_whole hw (n := m (29 * s)) (by rw [hsl]; omega) (by rw [hbse]; exact hb1)
       rw [hsl] at y1 y2
       have hall : ∀ (V : Int → Int) j, 0 ≤ j → j < 6 + 2 * m (29 * s + 1) → sp_en V (fun i => m (29 * s + (5 + i))) (fun i => m (29 * s + (17 + i))) (m (29 * s + 4)).toNat j = m (29 * s + (17 + j)) := fun V j j0 j1 => sp_en_all _ (fun i i0 i1 => w2 i i0 (by omega)) j j0 (by omega)
       refine sv_wk (sv_cast (g90 (f (fd s)) ?_ ?_ y2) rfl rfl rfl rfl rfl sv_row_id) (by simp [sv_sub, sv_ent, sv_lng]) rfl
       · intro j j0 j1
         rw [hall _ j j0 j1]
         have := hw.ent hs.1 hs.2 j0 (by omega : j < m (29 * s + 4))
         omega
       · intro j j0 j1
         rw [y1, hall _ j j0 j1, hall _ j j0 j1])
    | (obtain ⟨y1, y2⟩ := sp_V_diff hw (n := m (29 * s)) (by rw [hsl]; omega) (by rw [hbse]; exact hnB) (by rw [hbse]; exact hRb)
       rw [hsl, hbse] at y1
       rw [hsl] at y2
       have hV : ∀ j, 0 ≤ j → j < 6 + 2 * m (29 * s + 1) → sp_en (sp_rz (sv_cp f (fd s) (fd (sp_slot m (m (29 * s + 3)))) 12 (fd s)) (m (29 * (sp_slot m (m (29 * s + 3))) + 1)) (m (29 * s + 1))) (fun i => m (29 * s + (5 + i))) (fun i => m (29 * s + (17 + i))) (m (29 * s + 4)).toNat j = sp_V m (m (29 * s)) j := fun j j0 j1 => by
         rw [y1]
         exact sp_en_congr (sp_rz_congr hfb.1 hff hfr.2 hcp) _ j j0 j1
       refine sv_wk (g90 _ ?_ hV y2) (by simp [sv_sub, sv_ent, sv_lng]) rfl
       refine sp_en_ok (sp_rz_ok hfb.1 hff hfr.2 hok2) _ fun i i0 i1 => ?_
       have := hw.ent hs.1 hs.2 i0 (by omega : i < m (29 * s + 4))
       omega)
  · refine sv_aload_n (i := 1) dX2_readPlace_23 rfl rfl ?_
    refine sv_aload_n (i := 3) dX2_readPlace_24 rfl rfl ?_
    refine sv_getI (kz := 3) flX2_34 dX2_readPlace_25 rfl rfl hk.lt hk.k ?_
    rw [hkv.base]
    refine sv_vp0 (As := [_]) clX2_39 dX2_readPlace_28 ⟨_, rfl, rfl⟩ (by decide) rfl (Nat.le_of_ble_eq_true rfl) (by decide) (by decide) hmo.lt hmo.k (c_X1_placeOf hmo hmv hcc _ (by omega)) ?_
    have hst := sp_slot_spec m (m (29 * s + 3))
    refine sv_istore dX2_readPlace_31 (by decide) rfl ?_
    refine sv_iload dX2_readPlace_33 rfl ?_
    refine sv_iconst dX2_readPlace_35 ?_
    refine sv_icmp_eq (tgt := 50) dX2_readPlace_36 (by decide) (by omega) (by first | omega | exact hin _ _ | decide | (simp [sv_u, sv_row]; omega) | (simp [sv_u, sv_row]; exact hin _ _) | exact hin1 _ _ | (simp [sv_u, sv_row]; exact hin1 _ _)) (fun h_36 => ?_) (fun h_36 => ?_)
    · refine sv_iconst dX2_readPlace_50 ?_
      refine sv_ireturn dX2_readPlace_51 rfl ?_
      refine ⟨2, rfl, rfl, rfl, rfl, ?_, fun x hx => rfl, fun h => absurd h (by decide)⟩
      refine (sp_R_bad hw (by rw [hsl]; omega) (by rw [hbse]; assumption) ?_).symm
      rw [hbse]
      first | assumption | (rw [sp_R_lost hw (by assumption)]; decide)
    · have hsb : (sp_slot m (m (29 * s + 3))) ≠ -1 := by assumption
      obtain ⟨s0, s1, s2⟩ := sp_slot_in hsb
      have hnB : m (29 * s + 3) ≠ -1 := by assumption
      have hlt : (sp_slot m (m (29 * s + 3))) < s := by
        have := sp_slot_mono hw hsb (y := m (29 * s)) (by rw [hsl]; omega) (by omega)
        rw [hsl] at this; exact this
      obtain ⟨v1, v2⟩ := hv2 _ s0 hlt
      rw [s2] at v1 v2
      refine sv_aload_n (i := 0) dX2_readPlace_39 rfl rfl ?_
      refine sv_getR (kz := 1) flX2_16 dX2_readPlace_40 rfl rfl hre.lt hre.k hre.r2 ?_
      refine sv_iload dX2_readPlace_43 rfl ?_
      refine sv_iald dX2_readPlace_45 hre.l2 hre.s2 (by omega) ?_
      rw [v1]
      refine sv_iconst dX2_readPlace_46 ?_
      refine sv_icmp_eq (tgt := 52) dX2_readPlace_47 (by decide) (v1 ▸ hin _ _) (by first | omega | exact hin _ _ | decide | (simp [sv_u, sv_row]; omega) | (simp [sv_u, sv_row]; exact hin _ _) | exact hin1 _ _ | (simp [sv_u, sv_row]; exact hin1 _ _)) (fun h_47 => ?_) (fun h_47 => ?_)
      · have hRb : sp_R m (m (29 * s + 3)) = -1 := by assumption
        have v2 := v2 hRb
        have hb := hre.a (p := (sp_slot m (m (29 * s + 3)))) (by omega) (by omega)
        have hj := hmo.o (p := (sp_slot m (m (29 * s + 3)))) (by omega) (by omega)
        have hjb := hmo.b (p := (sp_slot m (m (29 * s + 3)))) (by omega) (by omega)
        have hjv := hmv.o (s := (sp_slot m (m (29 * s + 3)))) (by omega) (by omega)
        have hfb := hw.frm s0 s1
        have hff := hw.fms hs.1 hs.2 s0 s1 s2.symm
        have hne := hre.dj (p := s) (p' := (sp_slot m (m (29 * s + 3)))) (by omega) (by omega) (by omega) (by omega) (by omega)
        have hokB := sp_V_ok' hw hRb
        have hcp : ∀ j, 0 ≤ j → j < 6 + 2 * m (29 * (sp_slot m (m (29 * s + 3))) + 1) → sv_cp f (fd s) (fd (sp_slot m (m (29 * s + 3)))) 12 (fd s) j = sp_V m (m (29 * s + 3)) j := fun j j0 j1 => by
          rw [← v2 j j0 j1]; simp [sv_cp]; omega
        have hok2 : sp_ok (sv_cp f (fd s) (fd (sp_slot m (m (29 * s + 3)))) 12 (fd s)) (6 + 2 * m (29 * (sp_slot m (m (29 * s + 3))) + 1)) := fun j j0 j1 => by rw [hcp j j0 j1]; exact hokB j j0 j1
        have hcn : ∀ x, x ≠ fd s → sv_cp f (fd s) (fd (sp_slot m (m (29 * s + 3)))) 12 x = f x := fun x hx => by funext y; simp [sv_cp, hx]
        refine sv_aload_n (i := 0) dX2_readPlace_52 rfl rfl ?_
        refine sv_getR (kz := 0) flX2_11 dX2_readPlace_53 rfl rfl hre.lt hre.k hre.r1 ?_
        refine sv_iload dX2_readPlace_56 rfl ?_
        refine sv_aald (t := 2) (n := 20) dX2_readPlace_58 hre.l1 (by decide) hre.s1 (by omega) (hre.e (p := sp_slot m (m (29 * s + 3))) (by omega) (by omega)) ?_
        refine sv_iconst dX2_readPlace_59 ?_
        refine sv_aload dX2_readPlace_60 rfl ?_
        refine sv_iconst dX2_readPlace_62 ?_
        refine sv_bipush dX2_readPlace_63 (by decide) ?_
        refine sv_copy (List.mem_of_getElem? (i := 235) (by decide +kernel)) sv_copyw hb.1 hb.2 ha.1 ha.2 (by decide) (Nat.le_of_ble_eq_true rfl) (by decide) dX2_readPlace_65 ?_
        refine sv_aload dX2_readPlace_68 rfl ?_
        refine sv_aload_n (i := 1) dX2_readPlace_70 rfl rfl ?_
        refine sv_getR (kz := 6) flX2_30 dX2_readPlace_71 rfl rfl hmo.lt hmo.k hmo.r3 ?_
        refine sv_iload dX2_readPlace_74 rfl ?_
        refine sv_aald (t := 0) (n := 20) dX2_readPlace_76 hmo.l3 (by decide) hmo.s3 (by omega) (hmo.e (p := sp_slot m (m (29 * s + 3))) (by omega) (by omega)) ?_
        refine sv_getI (kz := 1) flX2_49 dX2_readPlace_77 rfl rfl hj.lt hj.k ?_
        rw [hcn _ (by omega), hjv.form]
        refine sv_aload_n (i := 3) dX2_readPlace_80 rfl rfl ?_
        refine sv_getI (kz := 1) flX2_49 dX2_readPlace_81 rfl rfl hk.lt hk.k ?_
        rw [hcn _ (by omega), hkv.form]
        refine sv_sv0 (As := [_, _, _]) clX2_52 dX2_readPlace_84 rfl (Nat.le_of_ble_eq_true rfl) (by decide) (by decide) (c_X4_raiseValues ha (by omega) (by omega) (fun _ => hok2)) (fun f2 hf2 => ?_)
        have hf3 : f2 = sv_row f (fd s) (sp_rz (sv_cp f (fd s) (fd (sp_slot m (m (29 * s + 3)))) 12 (fd s)) (m (29 * (sp_slot m (m (29 * s + 3))) + 1)) (m (29 * s + 1))) := by
          rw [hf2]
          funext x y
          by_cases hx : x = fd s
          · subst hx; simp [sv_row]
          · rw [sv_row_ne hx, sv_row_ne hx, hcn x hx]
        rw [hf3]
        refine sv_iconst dX2_readPlace_87 ?_
        refine sv_istore dX2_readPlace_88 (by decide) rfl ?_
        first
        | (have hb1 : m (29 * s + 3) = -1 := by assumption
           obtain ⟨w1, w2⟩ := hw.whole hs.1 hs.2 hb1
           obtain ⟨y1, y2⟩ := sp_V_whole hw (n := m (29 * s)) (by rw [hsl]; omega) (by rw [hbse]; exact hb1)
           rw [hsl] at y1 y2
           have hall : ∀ (V : Int → Int) j, 0 ≤ j → j < 6 + 2 * m (29 * s + 1) → sp_en V (fun i => m (29 * s + (5 + i))) (fun i => m (29 * s + (17 + i))) (m (29 * s + 4)).toNat j = m (29 * s + (17 + j)) := fun V j j0 j1 => sp_en_all _ (fun i i0 i1 => w2 i i0 (by omega)) j j0 (by omega)
           refine sv_wk (sv_cast (g90 (f (fd s)) ?_ ?_ y2) rfl rfl rfl rfl rfl sv_row_id) (by simp [sv_sub, sv_ent, sv_lng]) rfl
           · intro j j0 j1
             rw [hall _ j j0 j1]
             have := hw.ent hs.1 hs.2 j0 (by omega : j < m (29 * s + 4))
             omega
           · intro j j0 j1
             rw [y1, hall _ j j0 j1, hall _ j j0 j1])
        | (obtain ⟨y1, y2⟩ := sp_V_diff hw (n := m (29 * s)) (by rw [hsl]; omega) (by rw [hbse]; exact hnB) (by rw [hbse]; exact hRb)
           rw [hsl, hbse] at y1
           rw [hsl] at y2
           have hV : ∀ j, 0 ≤ j → j < 6 + 2 * m (29 * s + 1) → sp_en (sp_rz (sv_cp f (fd s) (fd (sp_slot m (m (29 * s + 3)))) 12 (fd s)) (m (29 * (sp_slot m (m (29 * s + 3))) + 1)) (m (29 * s + 1))) (fun i => m (29 * s + (5 + i))) (fun i => m (29 * s + (17 + i))) (m (29 * s + 4)).toNat j = sp_V m (m (29 * s)) j := fun j j0 j1 => by
             rw [y1]
             exact sp_en_congr (sp_rz_congr hfb.1 hff hfr.2 hcp) _ j j0 j1
           refine sv_wk (g90 _ ?_ hV y2) (by simp [sv_sub, sv_ent, sv_lng]) rfl
           refine sp_en_ok (sp_rz_ok hfb.1 hff hfr.2 hok2) _ fun i i0 i1 => ?_
           have := hw.ent hs.1 hs.2 i0 (by omega : i < m (29 * s + 4))
           omega)
      · refine sv_iconst dX2_readPlace_50 ?_
        refine sv_ireturn dX2_readPlace_51 rfl ?_
        refine ⟨2, rfl, rfl, rfl, rfl, ?_, fun x hx => rfl, fun h => absurd h (by decide)⟩
        refine (sp_R_bad hw (by rw [hsl]; omega) (by rw [hbse]; assumption) ?_).symm
        rw [hbse]
        first | assumption | (rw [sp_R_lost hw (by assumption)]; decide)
