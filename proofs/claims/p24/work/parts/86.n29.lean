set_option maxRecDepth 100000 in
set_option maxHeartbeats 4000000 in
theorem c_X4_packPlace {X : sv_X} {S : sv_S} {f : sv_F} {r : sv_R} {g : sv_G} {V q d fo rs fi se pa sc : Nat} {kp fd : Int → Nat} {m mi : Int → Int} (hve : sv_K4 S r V q d fi se pa sc) (hmo : sv_K1 S r q kp) (hmv : sv_V1 f q kp mi) (hre : sv_K2 S r d fo rs fd) (hw : sp_wt m) (hrp : sp_rp m mi) (hv2 : sv_V2 f rs fd m (m 580)) {sc2 tx vs : Nat} (hp : sv_sep V q fi se sc2 tx vs rs fd) (hg3 : 1 ≤ m 582 ∧ m 582 ≤ 3) (s : Int) (hs : 0 ≤ s ∧ s < m 580) (hrest : ∀ j, 29 * s ≤ j → mi j = m j) (hRs : sp_R m (m (29 * s)) = -1) (hl8 : 1 ≤ m 596 ∧ m 596 ≤ 8) : sv_C X 4 MX4_packPlace 0 0 [sv_r V, sv_i s] S f r g (sv_qv (fun f' => sv_V1 f' q kp (sp_pkf m mi s) ∧ ∀ z, (z < q + 4 ∨ q + 64 ≤ z) → z ≠ fi → f' z = f z) S r g) := by
  refine sv_met (by decide) (by simp [lg_sl, sv_cv, va_rf, Value.category]) ?_
  refine sv_fr fun hin => ?_
  have hcc := hw.c
  have hwi := hrp.wt hw
  have hic := hrp.c
  have hi596 := hrp.1 596 (by omega) (by omega)
  have hk := hmo.o (p := s) (by omega) (by omega)
  have hkb := hmo.b (p := s) (by omega) (by omega)
  have hb := hre.a (p := s) (by omega) (by omega)
  have hfr := hw.frm hs.1 hs.2
  have hfdq := hp.2.2.1 s hs.1 (by omega)
  have hfiq := (hp.1 fi (by simp)).1
  have hfis := (hp.1 fi (by simp)).2.2 s hs.1 (by omega)
  have hfirs := (hp.1 fi (by simp)).2.1
  have hrsq := hp.2.1
  obtain ⟨v1, v2⟩ := hv2 s hs.1 hs.2
  have v2 := v2 hRs
  have e1s : mi (29 * s + 1) = m (29 * s + 1) := hrest _ (by omega)
  have hn12 : 0 ≤ sp_n m s ∧ sp_n m s ≤ 12 := by unfold sp_n; omega
  have hrow : ∀ t, 0 ≤ t → t < m 580 → mi (29 * t) = m (29 * t) ∧ mi (29 * t + 1) = m (29 * t + 1) := fun t a b => ⟨(hrp.2 t a b).1, (hrp.2 t a b).2.1⟩
  have hrd : ∀ t, 0 ≤ t → t < m 580 → sp_R m (m (29 * t)) = -1 → ∀ j, 0 ≤ j → j < 6 + 2 * m (29 * t + 1) → sp_V mi (m (29 * t)) j = sp_V m (m (29 * t)) j := fun t a b h => by
    have := hrp.V hw h
    rw [hw.slot a b] at this
    exact this
  have lp : ∀ (kk : Nat) (i : Nat) (f1 : sv_F), m 580 - (i : Int) < (kk : Int) → ((i : Int) ≤ s) → (∀ x, x ≠ fi → f1 x = f x) → sv_T X (sv_rm 4 0 0) MX4_packPlace (sv_Zm X 0 0 (sv_qv (fun f' => sv_V1 f' q kp (sp_pkf m mi s) ∧ ∀ z, (z < q + 4 ∨ q + 64 ≤ z) → z ≠ fi → f' z = f z) S r g)) 0 0 30 [some (sv_r V), some (sv_i s), some (sv_r (kp s)), some (sv_r (fd s)), some (sv_i ((sp_am (fun t => m (29 * t + 1) ≤ m (29 * s + 1) ∧ sp_lk mi (m (29 * t)) < m 596 ∧ sp_R m (m (29 * t)) = -1) (fun t => sp_dn (sp_rz (sp_V m (m (29 * t))) (m (29 * t + 1)) (m (29 * s + 1))) (sp_V m (m (29 * s))) (sp_n m s).toNat) 7 i) : Int × Int).1), some (sv_i ((sp_am (fun t => m (29 * t + 1) ≤ m (29 * s + 1) ∧ sp_lk mi (m (29 * t)) < m 596 ∧ sp_R m (m (29 * t)) = -1) (fun t => sp_dn (sp_rz (sp_V m (m (29 * t))) (m (29 * t + 1)) (m (29 * s + 1))) (sp_V m (m (29 * s))) (sp_n m s).toNat) 7 i) : Int × Int).2), some (sv_i (i : Nat)), none] [] S (f1) r g := by
    intro kk
    induction kk with
    | zero =>
      intro i f1 hkk h1 h3
      exact absurd hkk (by omega)
    | succ kk ih =>
      intro i f1 hkk h1 h3
      have hv1 : sv_V1 f1 q kp mi := sv_V1.congr hmo (by rw [hic]; exact hcc) hmv fun x x0 x1 => h3 x (by omega)
      refine sv_iload dX4_packPlace_30 rfl ?_
      refine sv_iload_n (i := 1) dX4_packPlace_32 rfl rfl ?_
      refine sv_icmp_ge (tgt := 83) dX4_packPlace_33 (by decide) (by unfold sv_in; omega) (by unfold sv_in; omega) (fun h_33 => ?_) (fun h_33 => ?_)
      · have hkv1 := hv1.o (s := s) (by omega) (by omega)
        have hkf : f1 (kp s) 1 = m (29 * s + 1) := by rw [hkv1.form]; exact e1s
        have hpb : sp_pkb m mi s = ((sp_am (fun t => m (29 * t + 1) ≤ m (29 * s + 1) ∧ sp_lk mi (m (29 * t)) < m 596 ∧ sp_R m (m (29 * t)) = -1) (fun t => sp_dn (sp_rz (sp_V m (m (29 * t))) (m (29 * t + 1)) (m (29 * s + 1))) (sp_V m (m (29 * s))) (sp_n m s).toNat) 7 i) : Int × Int).1 := by unfold sp_pkb; rw [show s.toNat = i by omega]
        rw [← hpb]
        have hpr : -1 ≤ sp_pkb m mi s ∧ sp_pkb m mi s < 20 := by
          by_cases e : sp_pkb m mi s = -1
          · omega
          · have := sp_pkb_spec hs.1 e; omega
        refine sv_iload dX4_packPlace_83 rfl ?_
        refine sv_iconst dX4_packPlace_85 ?_
        refine sv_icmp_ne (tgt := 97) dX4_packPlace_86 (by decide) (by unfold sv_in; omega) (by decide) (fun h_86 => ?_) (fun h_86 => ?_)
        · have hbn : sp_pkb m mi s ≠ -1 := by assumption
          obtain ⟨b1, b2, b3, b4, b5⟩ := sp_pkb_spec hs.1 hbn
          have hj := hmo.o (p := (sp_pkb m mi s)) (by omega) (by omega)
          have hrw := hrow (sp_pkb m mi s) b1 (by omega)
          have hfi := hw.frm (s := (sp_pkb m mi s)) b1 (by omega)
          have hnm := hw.num (s := (sp_pkb m mi s)) b1 (by omega)
          have hcm := hw.cm
          obtain ⟨w1, w2⟩ := hv2 (sp_pkb m mi s) b1 (by omega)
          refine sv_aload_n (i := 0) dX4_packPlace_97 rfl rfl ?_
          refine sv_iload dX4_packPlace_98 rfl ?_
          refine sv_aload_n (i := 2) dX4_packPlace_100 rfl rfl ?_
          refine sv_getI (kz := 1) flX4_98 dX4_packPlace_101 rfl rfl hk.lt hk.k ?_
          rw [hkf]
          refine sv_aload_n (i := 0) dX4_packPlace_104 rfl rfl ?_
          refine sv_getR (kz := 5) flX4_38 dX4_packPlace_105 rfl rfl hve.lt hve.k hve.r5 ?_
          refine sv_vv0 (As := [_, _, _]) clX4_113 dX4_packPlace_108 ⟨_, rfl, rfl⟩ (by decide) rfl (Nat.le_of_ble_eq_true rfl) (by decide) (by decide) hve.lt hve.k (c_X4_raiseRead hve hmo hv1 hre hwi ⟨hve.l5, hve.s5⟩ (sp_pkb m mi s) (m (29 * s + 1)) (by omega) (by rw [hrw.2]; omega) (by rw [hrw.1, hrp.R hw]; exact b5) (fun j j0 j1 => by rw [h3 _ (Ne.symm ((hp.1 fi (by simp)).2.2 _ b1 (by omega))), hrw.1, hrd _ b1 (by omega) b5 j j0 (by rw [← hrw.2]; exact j1)]; exact w2 b5 j j0 (by rw [← hrw.2]; exact j1)) ((hp.1 fi (by simp)).2.2 _ b1 (by omega)) hfiq) (fun f3 hf3 => ?_)
          obtain ⟨g1, g2⟩ := hf3
          have hv3 : sv_V1 f3 q kp mi := sv_V1.congr hmo (by rw [hic]; exact hcc) hv1 fun x x0 x1 => g1 x (by omega)
          have hjv := hv3.o (s := (sp_pkb m mi s)) (by omega) (by omega)
          refine sv_aload_n (i := 2) dX4_packPlace_111 rfl rfl ?_
          refine sv_aload_n (i := 0) dX4_packPlace_112 rfl rfl ?_
          refine sv_getR (kz := 0) flX4_10 dX4_packPlace_113 rfl rfl hve.lt hve.k hve.r0 ?_
          refine sv_getR (kz := 6) flX4_89 dX4_packPlace_116 rfl rfl hmo.lt hmo.k hmo.r3 ?_
          refine sv_iload dX4_packPlace_119 rfl ?_
          refine sv_aald (t := 0) (n := 20) dX4_packPlace_121 hmo.l3 (by decide) hmo.s3 (by omega) (hmo.e (p := (sp_pkb m mi s)) (by omega) (by omega)) ?_
          refine sv_getI (kz := 0) flX4_93 dX4_packPlace_122 rfl rfl hj.lt hj.k ?_
          rw [hjv.num, hrw.1]
          refine sv_aload_n (i := 0) dX4_packPlace_125 rfl rfl ?_
          refine sv_getR (kz := 5) flX4_38 dX4_packPlace_126 rfl rfl hve.lt hve.k hve.r5 ?_
          refine sv_aload_n (i := 3) dX4_packPlace_129 rfl rfl ?_
          refine sv_vv0 (As := [_, _, _]) clX4_120 dX4_packPlace_130 ⟨_, rfl, rfl⟩ (by decide) rfl (Nat.le_of_ble_eq_true rfl) (by decide) (by decide) hk.lt hk.k (c_X0_makeDifference hk ⟨hve.l5, hve.s5⟩ ⟨hb.1, hb.2⟩ (by omega) (by omega) (by unfold sv_in; omega) (by rw [g1 _ (by omega), hkf]; exact hfr)) (fun f4 hf4 => ?_)
          first
          | (have hpf : sp_pkf m mi s = sp_ww mi s (sp_n m s) 12 (sp_V m (m (29 * s))) := by unfold sp_pkf; rw [if_neg (by omega), if_pos (by assumption)]
             obtain ⟨g1, g2⟩ := hf3
             rw [hkf] at g1 g2
             refine sv_return dX4_packPlace_133 rfl ⟨rfl, rfl, rfl, rfl, ?_, fun z hz z1 => by rw [g1.1 z (by omega) (by omega) (by omega)]; exact h3 z z1⟩
             rw [hpf]
             refine sv_V1.row1 hmo hv1 hwi hs.1 (by omega) (fun z z0 _ _ => g1.1 z (by omega) (by omega) (by omega)) (fun j _ _ j1 => sp_ww_out (by omega)) (sv_V0.ofW g1 hkv1 (fun j j0 j1 => sp_ww_out (by omega)) (sp_ww_row hn12.2) (fun j j0 j1 => ?_)) (by rw [hrp.1 582 (by omega) (by omega)]; exact hg3.2)
             obtain ⟨y1, y2⟩ := g2 j j0 j1
             refine ⟨y1, ?_⟩
             rw [y2, h3 _ (Ne.symm hfis)]
             exact v2 j j0 j1)
          | (have hpf : sp_pkf m mi s = sp_up (sp_up (sp_wd mi s (sp_rz (sp_V m (m (29 * sp_pkb m mi s))) (m (29 * sp_pkb m mi s + 1)) (m (29 * s + 1))) (sp_V m (m (29 * s))) (sp_n m s).toNat) (29 * s + 3) (m (29 * sp_pkb m mi s))) (29 * s + 4) (sp_dn (sp_rz (sp_V m (m (29 * sp_pkb m mi s))) (m (29 * sp_pkb m mi s + 1)) (m (29 * s + 1))) (sp_V m (m (29 * s))) (sp_n m s).toNat) := by unfold sp_pkf; rw [if_neg (by omega), if_neg hbn]
             obtain ⟨y1, y2⟩ := hf4
             have hkf3 : f3 (kp s) 1 = m (29 * s + 1) := by rw [g1 _ (by omega)]; exact hkf
             rw [hkf3] at y1 y2
             refine sv_return dX4_packPlace_133 rfl ⟨rfl, rfl, rfl, rfl, ?_, fun z hz z1 => by rw [y1.1 z (by omega) (by omega) (by omega), g1 z z1]; exact h3 z z1⟩
             rw [hpf]
             refine sv_V1.row1 hmo hv3 hwi hs.1 (by omega) (fun z z0 _ _ => y1.1 z (by omega) (by omega) (by omega)) (fun j _ _ j1 => sp_rowD_out hn12.2 (by omega)) (sv_V0.ofD (n := sp_n m s) hn12.1 y1 (hv3.o (s := s) (by omega) (by omega)) (fun j j0 j1 => sp_rowD_out hn12.2 (by omega)) (sp_rowD_of hn12.1 hn12.2 (fun _ _ _ => rfl) (fun _ _ _ => rfl)) (fun j j0 j1 => ?_) (fun j j0 j1 => ?_) y2) (by rw [hrp.1 582 (by omega) (by omega)]; exact hg3.2)
             · rw [g2 j j0 j1, hrw.1, hrw.2]
               exact sp_rz_congr hfi.1 b3 hfr.2 (fun x x0 x1 => hrd _ b1 (by omega) b5 x x0 x1) j j0 j1
             · rw [g1 _ (Ne.symm hfis), h3 _ (Ne.symm hfis)]
               exact v2 j j0 j1)
        · refine sv_aload_n (i := 2) dX4_packPlace_89 rfl rfl ?_
          refine sv_aload_n (i := 3) dX4_packPlace_90 rfl rfl ?_
          refine sv_vv0 (As := [_]) clX4_109 dX4_packPlace_91 ⟨_, rfl, rfl⟩ (by decide) rfl (Nat.le_of_ble_eq_true rfl) (by decide) (by decide) hk.lt hk.k (c_X0_makeWhole hk ⟨hb.1, hb.2⟩ (by omega) (by rw [hkf]; exact hfr)) (fun f3 hf3 => ?_)
          refine sv_goto (tgt := 133) dX4_packPlace_94 (by decide) ?_
          first
          | (have hpf : sp_pkf m mi s = sp_ww mi s (sp_n m s) 12 (sp_V m (m (29 * s))) := by unfold sp_pkf; rw [if_neg (by omega), if_pos (by assumption)]
             obtain ⟨g1, g2⟩ := hf3
             rw [hkf] at g1 g2
             refine sv_return dX4_packPlace_133 rfl ⟨rfl, rfl, rfl, rfl, ?_, fun z hz z1 => by rw [g1.1 z (by omega) (by omega) (by omega)]; exact h3 z z1⟩
             rw [hpf]
             refine sv_V1.row1 hmo hv1 hwi hs.1 (by omega) (fun z z0 _ _ => g1.1 z (by omega) (by omega) (by omega)) (fun j _ _ j1 => sp_ww_out (by omega)) (sv_V0.ofW g1 hkv1 (fun j j0 j1 => sp_ww_out (by omega)) (sp_ww_row hn12.2) (fun j j0 j1 => ?_)) (by rw [hrp.1 582 (by omega) (by omega)]; exact hg3.2)
             obtain ⟨y1, y2⟩ := g2 j j0 j1
             refine ⟨y1, ?_⟩
             rw [y2, h3 _ (Ne.symm hfis)]
             exact v2 j j0 j1)
          | (have hpf : sp_pkf m mi s = sp_up (sp_up (sp_wd mi s (sp_rz (sp_V m (m (29 * sp_pkb m mi s))) (m (29 * sp_pkb m mi s + 1)) (m (29 * s + 1))) (sp_V m (m (29 * s))) (sp_n m s).toNat) (29 * s + 3) (m (29 * sp_pkb m mi s))) (29 * s + 4) (sp_dn (sp_rz (sp_V m (m (29 * sp_pkb m mi s))) (m (29 * sp_pkb m mi s + 1)) (m (29 * s + 1))) (sp_V m (m (29 * s))) (sp_n m s).toNat) := by unfold sp_pkf; rw [if_neg (by omega), if_neg hbn]
             obtain ⟨y1, y2⟩ := hf4
             have hkf3 : f3 (kp s) 1 = m (29 * s + 1) := by rw [g1 _ (by omega)]; exact hkf
             rw [hkf3] at y1 y2
             refine sv_return dX4_packPlace_133 rfl ⟨rfl, rfl, rfl, rfl, ?_, fun z hz z1 => by rw [y1.1 z (by omega) (by omega) (by omega), g1 z z1]; exact h3 z z1⟩
             rw [hpf]
             refine sv_V1.row1 hmo hv3 hwi hs.1 (by omega) (fun z z0 _ _ => y1.1 z (by omega) (by omega) (by omega)) (fun j _ _ j1 => sp_rowD_out hn12.2 (by omega)) (sv_V0.ofD (n := sp_n m s) hn12.1 y1 (hv3.o (s := s) (by omega) (by omega)) (fun j j0 j1 => sp_rowD_out hn12.2 (by omega)) (sp_rowD_of hn12.1 hn12.2 (fun _ _ _ => rfl) (fun _ _ _ => rfl)) (fun j j0 j1 => ?_) (fun j j0 j1 => ?_) y2) (by rw [hrp.1 582 (by omega) (by omega)]; exact hg3.2)
             · rw [g2 j j0 j1, hrw.1, hrw.2]
               exact sp_rz_congr hfi.1 b3 hfr.2 (fun x x0 x1 => hrd _ b1 (by omega) b5 x x0 x1) j j0 j1
             · rw [g1 _ (Ne.symm hfis), h3 _ (Ne.symm hfis)]
               exact v2 j j0 j1)
      · have hrw := hrow (i : Int) (by omega) (by omega)
        obtain ⟨w1, w2⟩ := hv2 (i : Int) (by omega) (by omega)
        have hri : f1 rs (i : Int) = sp_R m (m (29 * (i : Int))) := by rw [h3 _ (Ne.symm hfirs)]; exact w1
        have hkv1 := hv1.o (s := s) (by omega) (by omega)
        have hkf : f1 (kp s) 1 = m (29 * s + 1) := by rw [hkv1.form]; exact e1s
        refine sv_aload_n (i := 0) dX4_packPlace_36 rfl rfl ?_
        refine sv_iload dX4_packPlace_37 rfl ?_
        refine sv_aload_n (i := 2) dX4_packPlace_39 rfl rfl ?_
        refine sv_getI (kz := 1) flX4_98 dX4_packPlace_40 rfl rfl hk.lt hk.k ?_
        rw [hkf]
        refine sv_vp0 (As := [_, _]) clX4_191 dX4_packPlace_43 ⟨_, rfl, rfl⟩ (by decide) rfl (Nat.le_of_ble_eq_true rfl) (by decide) (by decide) hve.lt hve.k (c_X4_canBeBase hve hmo hv1 hre hwi (i : Int) _ (sp_R m (m (29 * (i : Int)))) (by omega) (by unfold sv_in; omega) hri) ?_
        rw [hrw.1, hrw.2, hi596]
        refine sv_bif_eq (tgt := 77) dX4_packPlace_46 (by decide) (fun h_46 => ?_) (fun h_46 => ?_)
        · refine sv_iinc dX4_packPlace_77 rfl (by decide) rfl ?_
          refine sv_goto (tgt := 30) dX4_packPlace_80 (by decide) ?_
          have hst : sp_am (fun t => m (29 * t + 1) ≤ m (29 * s + 1) ∧ sp_lk mi (m (29 * t)) < m 596 ∧ sp_R m (m (29 * t)) = -1) (fun t => sp_dn (sp_rz (sp_V m (m (29 * t))) (m (29 * t + 1)) (m (29 * s + 1))) (sp_V m (m (29 * s))) (sp_n m s).toNat) 7 (i + 1) = if (m (29 * (i : Int) + 1) ≤ m (29 * s + 1) ∧ sp_lk mi (m (29 * (i : Int))) < m 596 ∧ sp_R m (m (29 * (i : Int))) = -1) ∧ (fun t => sp_dn (sp_rz (sp_V m (m (29 * t))) (m (29 * t + 1)) (m (29 * s + 1))) (sp_V m (m (29 * s))) (sp_n m s).toNat) (i : Int) < ((sp_am (fun t => m (29 * t + 1) ≤ m (29 * s + 1) ∧ sp_lk mi (m (29 * t)) < m 596 ∧ sp_R m (m (29 * t)) = -1) (fun t => sp_dn (sp_rz (sp_V m (m (29 * t))) (m (29 * t + 1)) (m (29 * s + 1))) (sp_V m (m (29 * s))) (sp_n m s).toNat) 7 i) : Int × Int).2 then ((i : Int), (fun t => sp_dn (sp_rz (sp_V m (m (29 * t))) (m (29 * t + 1)) (m (29 * s + 1))) (sp_V m (m (29 * s))) (sp_n m s).toNat) (i : Int)) else (sp_am (fun t => m (29 * t + 1) ≤ m (29 * s + 1) ∧ sp_lk mi (m (29 * t)) < m 596 ∧ sp_R m (m (29 * t)) = -1) (fun t => sp_dn (sp_rz (sp_V m (m (29 * t))) (m (29 * t + 1)) (m (29 * s + 1))) (sp_V m (m (29 * s))) (sp_n m s).toNat) 7 i) := rfl
          first
          | (rw [if_pos ⟨⟨hcb.2.1, hcb.2.2, hcb.1⟩, by first | assumption | (dsimp only at *; omega)⟩] at hst
             refine sv_wk (ih (i + 1) f2 (by omega) (by omega) h3b) ?_ rfl
             rw [hst]; simp [sv_sub, sv_ent, sv_lng])
          | (rw [if_neg (fun hh => absurd hh.2 (by dsimp only at *; omega))] at hst
             refine sv_wk (ih (i + 1) f2 (by omega) (by omega) h3b) ?_ rfl
             rw [hst]; simp [sv_sub, sv_ent, sv_lng])
          | (rw [if_neg (fun hh => absurd (⟨hh.1.2.2, hh.1.1, hh.1.2.1⟩ : sp_R m (m (29 * (i : Int))) = -1 ∧ m (29 * (i : Int) + 1) ≤ m (29 * s + 1) ∧ sp_lk mi (m (29 * (i : Int))) < m 596) (by assumption))] at hst
             refine sv_wk (ih (i + 1) f1 (by omega) (by omega) h3) ?_ rfl
             rw [hst]; simp [sv_sub, sv_ent, sv_lng])
        · have hcb : sp_R m (m (29 * (i : Int))) = -1 ∧ m (29 * (i : Int) + 1) ≤ m (29 * s + 1) ∧ sp_lk mi (m (29 * (i : Int))) < m 596 := by assumption
          have hfi := hw.frm (s := (i : Int)) (by omega) (by omega)
          refine sv_aload_n (i := 0) dX4_packPlace_49 rfl rfl ?_
          refine sv_iload dX4_packPlace_50 rfl ?_
          refine sv_aload_n (i := 2) dX4_packPlace_52 rfl rfl ?_
          refine sv_getI (kz := 1) flX4_98 dX4_packPlace_53 rfl rfl hk.lt hk.k ?_
          rw [hkf]
          refine sv_aload_n (i := 3) dX4_packPlace_56 rfl rfl ?_
          refine sv_vi0 (As := [_, _, _]) clX4_170 dX4_packPlace_57 ⟨_, rfl, rfl⟩ (by decide) rfl (Nat.le_of_ble_eq_true rfl) (by decide) (by decide) hve.lt hve.k (c_X4_distance hve hmo hv1 hre hwi ⟨hb.1, hb.2⟩ (i : Int) (m (29 * s + 1)) (by omega) (by rw [hrw.2]; omega) (by rw [hrw.1, hrp.R hw]; exact hcb.1) (fun j j0 j1 => by rw [h3 _ (Ne.symm ((hp.1 fi (by simp)).2.2 (i : Int) (by omega) (by omega))), hrw.1, hrd (i : Int) (by omega) (by omega) hcb.1 j j0 (by rw [← hrw.2]; exact j1)]; exact w2 hcb.1 j j0 (by rw [← hrw.2]; exact j1)) ((hp.1 fi (by simp)).2.2 (i : Int) (by omega) (by omega)) hfiq (Ne.symm hfis)) (fun a f2 hf2 => ?_)
          obtain ⟨ha, hf2⟩ := hf2
          have haa : a = (fun t => sp_dn (sp_rz (sp_V m (m (29 * t))) (m (29 * t + 1)) (m (29 * s + 1))) (sp_V m (m (29 * s))) (sp_n m s).toNat) (i : Int) := by
            rw [ha]
            refine sp_dn_congr (fun j j0 j1 => ?_) (fun j j0 j1 => by rw [h3 _ (Ne.symm hfis)]; exact v2 j j0 j1)
            rw [hrw.1, hrw.2]
            exact sp_rz_congr hfi.1 hcb.2.1 hfr.2 (fun x x0 x1 => hrd (i : Int) (by omega) (by omega) hcb.1 x x0 x1) j j0 j1
          clear ha
          subst haa
          have hdb := sp_dn_in (sp_rz (sp_V m (m (29 * (i : Int)))) (m (29 * (i : Int) + 1)) (m (29 * s + 1))) (sp_V m (m (29 * s))) (sp_n m s).toNat
          have h3b : ∀ x, x ≠ fi → f2 x = f x := fun x hx => (hf2 x hx).trans (h3 x hx)
          have hAs : ((sp_am (fun t => m (29 * t + 1) ≤ m (29 * s + 1) ∧ sp_lk mi (m (29 * t)) < m 596 ∧ sp_R m (m (29 * t)) = -1) (fun t => sp_dn (sp_rz (sp_V m (m (29 * t))) (m (29 * t + 1)) (m (29 * s + 1))) (sp_V m (m (29 * s))) (sp_n m s).toNat) 7 i) : Int × Int).2 ≤ 7 := by rcases sp_am_spec (p := (fun t => m (29 * t + 1) ≤ m (29 * s + 1) ∧ sp_lk mi (m (29 * t)) < m 596 ∧ sp_R m (m (29 * t)) = -1)) (d := (fun t => sp_dn (sp_rz (sp_V m (m (29 * t))) (m (29 * t + 1)) (m (29 * s + 1))) (sp_V m (m (29 * s))) (sp_n m s).toNat)) (b := 7) i with ⟨-, y, -⟩ | ⟨-, -, -, -, y⟩ <;> omega
          have hAg : 0 ≤ ((sp_am (fun t => m (29 * t + 1) ≤ m (29 * s + 1) ∧ sp_lk mi (m (29 * t)) < m 596 ∧ sp_R m (m (29 * t)) = -1) (fun t => sp_dn (sp_rz (sp_V m (m (29 * t))) (m (29 * t + 1)) (m (29 * s + 1))) (sp_V m (m (29 * s))) (sp_n m s).toNat) 7 i) : Int × Int).2 := by
            rcases sp_am_spec (p := (fun t => m (29 * t + 1) ≤ m (29 * s + 1) ∧ sp_lk mi (m (29 * t)) < m 596 ∧ sp_R m (m (29 * t)) = -1)) (d := (fun t => sp_dn (sp_rz (sp_V m (m (29 * t))) (m (29 * t + 1)) (m (29 * s + 1))) (sp_V m (m (29 * s))) (sp_n m s).toNat)) (b := 7) i with ⟨-, y, -⟩ | ⟨-, -, -, y, -⟩
            · omega
            · rw [y]; exact (sp_dn_in _ _ _).1
          refine sv_istore dX4_packPlace_60 (by decide) rfl ?_
          refine sv_iload dX4_packPlace_62 rfl ?_
          refine sv_iload dX4_packPlace_64 rfl ?_
          refine sv_icmp_ge (tgt := 77) dX4_packPlace_66 (by decide) (by dsimp only; unfold sv_in; omega) (by unfold sv_in; omega) (fun h_66 => ?_) (fun h_66 => ?_)
          · refine sv_iinc dX4_packPlace_77 rfl (by decide) rfl ?_
            refine sv_goto (tgt := 30) dX4_packPlace_80 (by decide) ?_
            have hst : sp_am (fun t => m (29 * t + 1) ≤ m (29 * s + 1) ∧ sp_lk mi (m (29 * t)) < m 596 ∧ sp_R m (m (29 * t)) = -1) (fun t => sp_dn (sp_rz (sp_V m (m (29 * t))) (m (29 * t + 1)) (m (29 * s + 1))) (sp_V m (m (29 * s))) (sp_n m s).toNat) 7 (i + 1) = if (m (29 * (i : Int) + 1) ≤ m (29 * s + 1) ∧ sp_lk mi (m (29 * (i : Int))) < m 596 ∧ sp_R m (m (29 * (i : Int))) = -1) ∧ (fun t => sp_dn (sp_rz (sp_V m (m (29 * t))) (m (29 * t + 1)) (m (29 * s + 1))) (sp_V m (m (29 * s))) (sp_n m s).toNat) (i : Int) < ((sp_am (fun t => m (29 * t + 1) ≤ m (29 * s + 1) ∧ sp_lk mi (m (29 * t)) < m 596 ∧ sp_R m (m (29 * t)) = -1) (fun t => sp_dn (sp_rz (sp_V m (m (29 * t))) (m (29 * t + 1)) (m (29 * s + 1))) (sp_V m (m (29 * s))) (sp_n m s).toNat) 7 i) : Int × Int).2 then ((i : Int), (fun t => sp_dn (sp_rz (sp_V m (m (29 * t))) (m (29 * t + 1)) (m (29 * s + 1))) (sp_V m (m (29 * s))) (sp_n m s).toNat) (i : Int)) else (sp_am (fun t => m (29 * t + 1) ≤ m (29 * s + 1) ∧ sp_lk mi (m (29 * t)) < m 596 ∧ sp_R m (m (29 * t)) = -1) (fun t => sp_dn (sp_rz (sp_V m (m (29 * t))) (m (29 * t + 1)) (m (29 * s + 1))) (sp_V m (m (29 * s))) (sp_n m s).toNat) 7 i) := rfl
            first
            | (rw [if_pos ⟨⟨hcb.2.1, hcb.2.2, hcb.1⟩, by first | assumption | (dsimp only at *; omega)⟩] at hst
               refine sv_wk (ih (i + 1) f2 (by omega) (by omega) h3b) ?_ rfl
               rw [hst]; simp [sv_sub, sv_ent, sv_lng])
            | (rw [if_neg (fun hh => absurd hh.2 (by dsimp only at *; omega))] at hst
               refine sv_wk (ih (i + 1) f2 (by omega) (by omega) h3b) ?_ rfl
               rw [hst]; simp [sv_sub, sv_ent, sv_lng])
            | (rw [if_neg (fun hh => absurd (⟨hh.1.2.2, hh.1.1, hh.1.2.1⟩ : sp_R m (m (29 * (i : Int))) = -1 ∧ m (29 * (i : Int) + 1) ≤ m (29 * s + 1) ∧ sp_lk mi (m (29 * (i : Int))) < m 596) (by assumption))] at hst
               refine sv_wk (ih (i + 1) f1 (by omega) (by omega) h3) ?_ rfl
               rw [hst]; simp [sv_sub, sv_ent, sv_lng])
          · refine sv_iload dX4_packPlace_69 rfl ?_
            refine sv_istore dX4_packPlace_71 (by decide) rfl ?_
            refine sv_iload dX4_packPlace_73 rfl ?_
            refine sv_istore dX4_packPlace_75 (by decide) rfl ?_
            refine sv_iinc dX4_packPlace_77 rfl (by decide) rfl ?_
            refine sv_goto (tgt := 30) dX4_packPlace_80 (by decide) ?_
            have hst : sp_am (fun t => m (29 * t + 1) ≤ m (29 * s + 1) ∧ sp_lk mi (m (29 * t)) < m 596 ∧ sp_R m (m (29 * t)) = -1) (fun t => sp_dn (sp_rz (sp_V m (m (29 * t))) (m (29 * t + 1)) (m (29 * s + 1))) (sp_V m (m (29 * s))) (sp_n m s).toNat) 7 (i + 1) = if (m (29 * (i : Int) + 1) ≤ m (29 * s + 1) ∧ sp_lk mi (m (29 * (i : Int))) < m 596 ∧ sp_R m (m (29 * (i : Int))) = -1) ∧ (fun t => sp_dn (sp_rz (sp_V m (m (29 * t))) (m (29 * t + 1)) (m (29 * s + 1))) (sp_V m (m (29 * s))) (sp_n m s).toNat) (i : Int) < ((sp_am (fun t => m (29 * t + 1) ≤ m (29 * s + 1) ∧ sp_lk mi (m (29 * t)) < m 596 ∧ sp_R m (m (29 * t)) = -1) (fun t => sp_dn (sp_rz (sp_V m (m (29 * t))) (m (29 * t + 1)) (m (29 * s + 1))) (sp_V m (m (29 * s))) (sp_n m s).toNat) 7 i) : Int × Int).2 then ((i : Int), (fun t => sp_dn (sp_rz (sp_V m (m (29 * t))) (m (29 * t + 1)) (m (29 * s + 1))) (sp_V m (m (29 * s))) (sp_n m s).toNat) (i : Int)) else (sp_am (fun t => m (29 * t + 1) ≤ m (29 * s + 1) ∧ sp_lk mi (m (29 * t)) < m 596 ∧ sp_R m (m (29 * t)) = -1) (fun t => sp_dn (sp_rz (sp_V m (m (29 * t))) (m (29 * t + 1)) (m (29 * s + 1))) (sp_V m (m (29 * s))) (sp_n m s).toNat) 7 i) := rfl
            first
            | (rw [if_pos ⟨⟨hcb.2.1, hcb.2.2, hcb.1⟩, by first | assumption | (dsimp only at *; omega)⟩] at hst
               refine sv_wk (ih (i + 1) f2 (by omega) (by omega) h3b) ?_ rfl
               rw [hst]; simp [sv_sub, sv_ent, sv_lng])
            | (rw [if_neg (fun hh => absurd hh.2 (by dsimp only at *; omega))] at hst
               refine sv_wk (ih (i + 1) f2 (by omega) (by omega) h3b) ?_ rfl
               rw [hst]; simp [sv_sub, sv_ent, sv_lng])
            | (rw [if_neg (fun hh => absurd (⟨hh.1.2.2, hh.1.1, hh.1.2.1⟩ : sp_R m (m (29 * (i : Int))) = -1 ∧ m (29 * (i : Int) + 1) ≤ m (29 * s + 1) ∧ sp_lk mi (m (29 * (i : Int))) < m 596) (by assumption))] at hst
               refine sv_wk (ih (i + 1) f1 (by omega) (by omega) h3) ?_ rfl
               rw [hst]; simp [sv_sub, sv_ent, sv_lng])
  refine sv_aload_n (i := 0) dX4_packPlace_0 rfl rfl ?_
  refine sv_getR (kz := 0) flX4_10 dX4_packPlace_1 rfl rfl hve.lt hve.k hve.r0 ?_
  refine sv_getR (kz := 6) flX4_89 dX4_packPlace_4 rfl rfl hmo.lt hmo.k hmo.r3 ?_
  refine sv_iload_n (i := 1) dX4_packPlace_7 rfl rfl ?_
  refine sv_aald (t := 0) (n := 20) dX4_packPlace_8 hmo.l3 (by decide) hmo.s3 (by omega) (hmo.e (p := s) (by omega) (by omega)) ?_
  refine sv_astore_n (i := 2) dX4_packPlace_9 rfl (by decide) rfl ?_
  refine sv_aload_n (i := 0) dX4_packPlace_10 rfl rfl ?_
  refine sv_getR (kz := 4) flX4_34 dX4_packPlace_11 rfl rfl hve.lt hve.k hve.r4 ?_
  refine sv_getR (kz := 0) flX4_201 dX4_packPlace_14 rfl rfl hre.lt hre.k hre.r1 ?_
  refine sv_iload_n (i := 1) dX4_packPlace_17 rfl rfl ?_
  refine sv_aald (t := 2) (n := 20) dX4_packPlace_18 hre.l1 (by decide) hre.s1 (by omega) (hre.e (p := s) (by omega) (by omega)) ?_
  refine sv_astore_n (i := 3) dX4_packPlace_19 rfl (by decide) rfl ?_
  refine sv_iconst dX4_packPlace_20 ?_
  refine sv_istore dX4_packPlace_21 (by decide) rfl ?_
  refine sv_bipush dX4_packPlace_23 (by decide) ?_
  refine sv_istore dX4_packPlace_25 (by decide) rfl ?_
  refine sv_iconst dX4_packPlace_27 ?_
  refine sv_istore dX4_packPlace_28 (by decide) rfl ?_
  exact lp (m 580 + 1).toNat 0 f (by omega) (by omega) (fun _ _ => rfl)
