set_option maxRecDepth 100000 in
set_option maxHeartbeats 4000000 in
theorem c_X3_runAdd {X : sv_X} {S : sv_S} {f : sv_F} {r : sv_R} {g : sv_G} {sc tx vs : Nat} (hsc : sv_K3 S r sc tx vs) (h10 : f sc 1 ≤ 80) (h5 : f sc 5 = -1) (hi : Int) (h3 : f sc 3 = hi + 1) (hhi : 7 ≤ hi ∧ hi ≤ 11) (p : Int) (hp : 0 ≤ p ∧ p ≤ f sc 1) (hat : f sc 4 = (sp_lt (f tx) (f sc 1) p)) {m : Int → Int} (hm : ∀ j, 0 ≤ j → j ≤ hi → f vs j = m (583 + j) ∧ 0 ≤ m (583 + j) ∧ m (583 + j) ≤ 99) (hcw : sp_cw (f tx) (f sc 1) p = 1) : sv_C X 4 MX3_runAdd 0 0 [sv_r sc] S f r g (sv_qv (fun f' => sv_rp sc vs (f tx) (f sc 1) hi p m f f') S r g) := by
  refine sv_met (by decide) (by simp [lg_sl, sv_cv, va_rf, Value.category]) ?_
  refine sv_fr fun hin => ?_
  have hne : tx ≠ sc := hsc.2.2.2.2.1
  have hnv : vs ≠ sc := hsc.2.2.2.2.2.1
  have hnt : tx ≠ vs := hsc.2.2.2.2.2.2
  have hb0 := sp_lt_bd (t := f tx) hp.2
  have hb1 : (sp_cp1 (f tx) (f sc 1) p) ≤ f sc 1 ∧ 0 ≤ (sp_cp1 (f tx) (f sc 1) p) := by have := sp_sk_bd (t := f tx) hb0.2; unfold sp_cp1; omega
  have hn1 := sp_nl_bd (t := f tx) hb1.1
  have hb2 : (sp_cp2 (f tx) (f sc 1) p) ≤ f sc 1 ∧ 0 ≤ (sp_cp2 (f tx) (f sc 1) p) := by have := sp_sk_bd (t := f tx) hn1.2; unfold sp_cp2; omega
  have hn2 := sp_nl_bd (t := f tx) hb2.1
  have hnv1 := sp_nv_bd (f tx) (f sc 1) (sp_cp1 (f tx) (f sc 1) p)
  have hnv2 := sp_nv_bd (f tx) (f sc 1) (sp_cp2 (f tx) (f sc 1) p)
  refine sv_cast (f' := (sv_u (sv_u f sc 4 (sp_lt (f tx) (f sc 1) p)) sc 5 (-1))) ?_ rfl rfl rfl rfl rfl (sv_Fself hat h5)
  refine sv_aload_n (i := 0) dX3_runAdd_0 rfl rfl ?_
  refine sv_iconst dX3_runAdd_1 ?_
  refine sv_vi0 (As := [_]) clX3_63 dX3_runAdd_2 ⟨_, rfl, rfl⟩ (by decide) rfl (Nat.le_of_ble_eq_true rfl) (by decide) (by decide) hsc.lt hsc.k (n_takeIndex hsc h10 (sp_lt (f tx) (f sc 1) p) (-1) (by omega) 0 (by decide)) (fun a1 f1 hf1 => ?_)
  obtain ⟨φ1, hf1, -, w1, ha1⟩ := hf1
  have w1 := w1 rfl
  rw [show f sc 3 - 1 = hi by omega] at w1
  replace w1 : φ1 = sp_cf1 (f tx) (f sc 1) hi p := w1
  replace hf1 : f1 = (sv_u (sv_u f sc 4 ((sp_cp1 (f tx) (f sc 1) p) + (sp_nl (f tx) (f sc 1) (sp_cp1 (f tx) (f sc 1) p)))) sc 5 φ1) := hf1
  replace ha1 : a1 = if φ1 = -1 then sp_ca (f tx) (f sc 1) p else 0 := ha1
  have ha1b : 0 ≤ a1 ∧ a1 ≤ 99 := by rw [ha1]; unfold sp_ca; split <;> omega
  subst hf1
  refine sv_istore_n (i := 1) dX3_runAdd_5 rfl (by decide) rfl ?_
  refine sv_aload_n (i := 0) dX3_runAdd_6 rfl rfl ?_
  refine sv_vi0 (As := []) clX3_73 dX3_runAdd_7 ⟨_, rfl, rfl⟩ (by decide) rfl (Nat.le_of_ble_eq_true rfl) (by decide) (by decide) hsc.lt hsc.k (n_takeAmount hsc h10 ((sp_cp1 (f tx) (f sc 1) p) + (sp_nl (f tx) (f sc 1) (sp_cp1 (f tx) (f sc 1) p))) φ1 (by omega)) (fun a2 f2 hf2 => ?_)
  obtain ⟨ha2, q2, φ2, qa2, qb2, hf2, v1, v2⟩ := hf2
  replace ha2 : a2 = sp_av (f tx) (f sc 1) (sp_cp2 (f tx) (f sc 1) p) := ha2
  replace v2 : φ1 = -1 → φ2 = (if sp_dg (f tx) (f sc 1) ((sp_cp2 (f tx) (f sc 1) p) + sp_mi (f tx) (f sc 1) (sp_cp2 (f tx) (f sc 1) p)) = true then -1 else ((sp_cp2 (f tx) (f sc 1) p) + sp_mi (f tx) (f sc 1) (sp_cp2 (f tx) (f sc 1) p))) ∧ (φ2 = -1 → q2 = (sp_cp2 (f tx) (f sc 1) p) + sp_al (f tx) (f sc 1) (sp_cp2 (f tx) (f sc 1) p)) := v2
  have hmi : 0 ≤ sp_mi (f tx) (f sc 1) (sp_cp2 (f tx) (f sc 1) p) := by unfold sp_mi; split <;> decide
  subst hf2
  refine sv_istore_n (i := 2) dX3_runAdd_10 rfl (by decide) rfl ?_
  refine sv_aload_n (i := 0) dX3_runAdd_11 rfl rfl ?_
  refine sv_vv0 (As := []) clX3_70 dX3_runAdd_12 ⟨_, rfl, rfl⟩ (by decide) rfl (Nat.le_of_ble_eq_true rfl) (by decide) (by decide) hsc.lt hsc.k (n_takeSemicolon hsc h10 q2 φ2 (by omega)) (fun f3 hf3 => ?_)
  have hs3 := sp_sk_bd (t := f tx) (L := f sc 1) (p := q2) (by omega)
  have he3 : ∃ q9 φ9 : Int, f3 = (sv_u (sv_u f sc 4 q9) sc 5 φ9) ∧ (0 ≤ q9 ∧ q9 ≤ f sc 1) ∧ ((sp_nx (f tx) (f sc 1) (sp_sk (f tx) (f sc 1) q2) = 59 ∧ φ9 = φ2 ∧ q9 = sp_sk (f tx) (f sc 1) q2 + 1) ∨ (sp_nx (f tx) (f sc 1) (sp_sk (f tx) (f sc 1) q2) ≠ 59 ∧ φ9 = if φ2 = -1 then sp_sk (f tx) (f sc 1) q2 else φ2)) := by
    rcases hf3 with ⟨h1, h2⟩ | ⟨h1, h2⟩
    · have hlt := sp_nx_lt h1 (by decide)
      exact ⟨_, _, h2, by omega, Or.inl ⟨h1, rfl, rfl⟩⟩
    · exact ⟨_, _, h2, by omega, Or.inr ⟨h1, rfl⟩⟩
  obtain ⟨q9, φ9, hf9, hq9, hb9⟩ := he3
  subst hf9
  obtain ⟨hcf, hcp⟩ := sp_num_semi (P := (sp_cp2 (f tx) (f sc 1) p) + sp_mi (f tx) (f sc 1) (sp_cp2 (f tx) (f sc 1) p)) (by omega) v1 (fun h => ⟨(v2 h).1, fun h2 => by rw [(v2 h).2 h2]; unfold sp_al; omega⟩) hb9 (by omega)
  have hal : (sp_cp2 (f tx) (f sc 1) p) + sp_mi (f tx) (f sc 1) (sp_cp2 (f tx) (f sc 1) p) + sp_nl (f tx) (f sc 1) ((sp_cp2 (f tx) (f sc 1) p) + sp_mi (f tx) (f sc 1) (sp_cp2 (f tx) (f sc 1) p)) = (sp_cp2 (f tx) (f sc 1) p) + sp_al (f tx) (f sc 1) (sp_cp2 (f tx) (f sc 1) p) := by unfold sp_al; omega
  rw [hal] at hcf hcp
  replace hcf : φ9 = sp_cf (f tx) (f sc 1) hi p := by
    rw [hcf, w1]
    unfold sp_cf sp_cf2 sp_cf3 sp_cp4 sp_cp3 sp_af
    simp only [hcw]
    simp
  refine sv_aload_n (i := 0) dX3_runAdd_15 rfl rfl ?_
  refine sv_fr fun hin1 => ?_
  refine sv_getI (kz := 5) flX3_28 dX3_runAdd_16 rfl rfl hsc.lt hsc.k ?_
  rw [sv_F5]
  refine sv_iconst dX3_runAdd_19 ?_
  refine sv_icmp_ne (tgt := 46) dX3_runAdd_20 (by decide) (sv_F5 (f := f) (sc := sc) (q := q9) (a := φ9) ▸ hin1 sc 5) (by first | omega | exact hin _ _ | decide | (simp [sv_u, sv_row]; omega) | (simp [sv_u, sv_row]; exact hin _ _) | exact hin1 _ _ | (simp [sv_u, sv_row]; exact hin1 _ _)) (fun h_20 => ?_) (fun h_20 => ?_)
  · refine sv_return dX3_runAdd_46 rfl ?_
    first
    | (refine ⟨rfl, rfl, rfl, rfl, fun x x0 x1 => sv_Fx_ x0, fun j j4 j5 => sv_Fj j4 j5, by rw [sv_F4]; exact hq9, by rw [sv_F5]; exact hcf, fun h => absurd (hcf.trans h) (by assumption)⟩)
    | (refine ⟨rfl, rfl, rfl, rfl, fun x x0 x1 => by rw [sv_u_ne x1, sv_Fx_ x0], fun j j4 j5 => by rw [sv_u_ne (Ne.symm hnv), sv_Fj j4 j5], by rw [sv_u_ne (Ne.symm hnv), sv_F4]; exact hq9, by rw [sv_u_ne (Ne.symm hnv), sv_F5]; exact hcf, fun _ => ⟨?_, fun j j0 j1 => ?_⟩⟩
       · rw [sv_u_ne (Ne.symm hnv), sv_F4, z1]; unfold sp_cp4 sp_cp3; simp only [hcw]; simp
       · unfold sp_ex
         rw [hcw, if_neg (by decide), if_pos rfl, ← ha1, hcb]
         rw [sv_u_at, sp_up_at, sv_Fx_ hnv]
         by_cases e : j = a1
         · rw [if_pos e, if_pos (by omega)]
           split
           · omega
           · split <;> omega
         · rw [if_neg e, if_neg (by omega)]
           exact (hm j j0 j1).1)
  · have hφ9 : φ9 = -1 := by assumption
    have hz := hcf.symm.trans hφ9
    have hok := sp_cmd_ok (t := f tx) (L := f sc 1) (hi := hi) (p := p) hp.2 hp.1 hz
    rw [hcw] at hok
    obtain ⟨-, ok1, ok2, ok3, ok4, ok5, ok6⟩ := hok
    obtain ⟨z0, z1⟩ := hcp hφ9
    rw [if_pos z0] at ha1
    have hcb : sp_cb (f tx) (f sc 1) p = a2 := by unfold sp_cb; rw [hcw, ha2]; simp
    rw [hcb] at ok3
    have ok3 := ok3 rfl
    have hma := hm a1 (by omega) (by omega)
    refine sv_aload_n (i := 0) dX3_runAdd_23 rfl rfl ?_
    refine sv_getR (kz := 2) flX3_19 dX3_runAdd_24 rfl rfl hsc.lt hsc.k hsc.r2 ?_
    refine sv_iload_n (i := 1) dX3_runAdd_27 rfl rfl ?_
    refine sv_iconst dX3_runAdd_28 ?_
    refine sv_bipush dX3_runAdd_29 (by decide) ?_
    refine sv_aload_n (i := 0) dX3_runAdd_31 rfl rfl ?_
    refine sv_getR (kz := 2) flX3_19 dX3_runAdd_32 rfl rfl hsc.lt hsc.k hsc.r2 ?_
    refine sv_iload_n (i := 1) dX3_runAdd_35 rfl rfl ?_
    refine sv_iald dX3_runAdd_36 hsc.l2 hsc.s2 (by omega) ?_
    rw [sv_Fx_ hnv, hma.1]
    refine sv_iload_n (i := 2) dX3_runAdd_37 rfl rfl ?_
    refine sv_iadd dX3_runAdd_38 ?_
    refine sv_min (List.mem_of_getElem? (i := 569) (by decide +kernel)) sv_minw (Nat.le_of_ble_eq_true rfl) (by decide) (by decide) (by decide) (by unfold sv_in; omega) dX3_runAdd_39 ?_
    refine sv_max (List.mem_of_getElem? (i := 570) (by decide +kernel)) sv_maxw (Nat.le_of_ble_eq_true rfl) (by decide) (by decide) (by decide) (by unfold sv_in; omega) dX3_runAdd_42 ?_
    refine sv_iast dX3_runAdd_45 hsc.l2 hsc.s2 (by omega) (by unfold sv_in; omega) ?_
    refine sv_return dX3_runAdd_46 rfl ?_
    first
    | (refine ⟨rfl, rfl, rfl, rfl, fun x x0 x1 => sv_Fx_ x0, fun j j4 j5 => sv_Fj j4 j5, by rw [sv_F4]; exact hq9, by rw [sv_F5]; exact hcf, fun h => absurd (hcf.trans h) (by assumption)⟩)
    | (refine ⟨rfl, rfl, rfl, rfl, fun x x0 x1 => by rw [sv_u_ne x1, sv_Fx_ x0], fun j j4 j5 => by rw [sv_u_ne (Ne.symm hnv), sv_Fj j4 j5], by rw [sv_u_ne (Ne.symm hnv), sv_F4]; exact hq9, by rw [sv_u_ne (Ne.symm hnv), sv_F5]; exact hcf, fun _ => ⟨?_, fun j j0 j1 => ?_⟩⟩
       · rw [sv_u_ne (Ne.symm hnv), sv_F4, z1]; unfold sp_cp4 sp_cp3; simp only [hcw]; simp
       · unfold sp_ex
         rw [hcw, if_neg (by decide), if_pos rfl, ← ha1, hcb]
         rw [sv_u_at, sp_up_at, sv_Fx_ hnv]
         by_cases e : j = a1
         · rw [if_pos e, if_pos (by omega)]
           split
           · omega
           · split <;> omega
         · rw [if_neg e, if_neg (by omega)]
           exact (hm j j0 j1).1)
set_option maxRecDepth 100000 in
set_option maxHeartbeats 4000000 in
theorem c_X3_runSwap {X : sv_X} {S : sv_S} {f : sv_F} {r : sv_R} {g : sv_G} {sc tx vs : Nat} (hsc : sv_K3 S r sc tx vs) (h10 : f sc 1 ≤ 80) (h5 : f sc 5 = -1) (hi : Int) (h3 : f sc 3 = hi + 1) (hhi : 7 ≤ hi ∧ hi ≤ 11) (p : Int) (hp : 0 ≤ p ∧ p ≤ f sc 1) (hat : f sc 4 = (sp_lt (f tx) (f sc 1) p)) {m : Int → Int} (hm : ∀ j, 0 ≤ j → j ≤ hi → f vs j = m (583 + j) ∧ 0 ≤ m (583 + j) ∧ m (583 + j) ≤ 99) (hcw : sp_cw (f tx) (f sc 1) p = 2) : sv_C X 4 MX3_runSwap 0 0 [sv_r sc] S f r g (sv_qv (fun f' => sv_rp sc vs (f tx) (f sc 1) hi p m f f') S r g) := by
  refine sv_met (by decide) (by simp [lg_sl, sv_cv, va_rf, Value.category]) ?_
  refine sv_fr fun hin => ?_
  have hne : tx ≠ sc := hsc.2.2.2.2.1
  have hnv : vs ≠ sc := hsc.2.2.2.2.2.1
  have hnt : tx ≠ vs := hsc.2.2.2.2.2.2
  have hb0 := sp_lt_bd (t := f tx) hp.2
  have hb1 : (sp_cp1 (f tx) (f sc 1) p) ≤ f sc 1 ∧ 0 ≤ (sp_cp1 (f tx) (f sc 1) p) := by have := sp_sk_bd (t := f tx) hb0.2; unfold sp_cp1; omega
  have hn1 := sp_nl_bd (t := f tx) hb1.1
  have hb2 : (sp_cp2 (f tx) (f sc 1) p) ≤ f sc 1 ∧ 0 ≤ (sp_cp2 (f tx) (f sc 1) p) := by have := sp_sk_bd (t := f tx) hn1.2; unfold sp_cp2; omega
  have hn2 := sp_nl_bd (t := f tx) hb2.1
  have hnv1 := sp_nv_bd (f tx) (f sc 1) (sp_cp1 (f tx) (f sc 1) p)
  have hnv2 := sp_nv_bd (f tx) (f sc 1) (sp_cp2 (f tx) (f sc 1) p)
  refine sv_cast (f' := (sv_u (sv_u f sc 4 (sp_lt (f tx) (f sc 1) p)) sc 5 (-1))) ?_ rfl rfl rfl rfl rfl (sv_Fself hat h5)
  refine sv_aload_n (i := 0) dX3_runSwap_0 rfl rfl ?_
  refine sv_iconst dX3_runSwap_1 ?_
  refine sv_vi0 (As := [_]) clX3_63 dX3_runSwap_2 ⟨_, rfl, rfl⟩ (by decide) rfl (Nat.le_of_ble_eq_true rfl) (by decide) (by decide) hsc.lt hsc.k (n_takeIndex hsc h10 (sp_lt (f tx) (f sc 1) p) (-1) (by omega) 0 (by decide)) (fun a1 f1 hf1 => ?_)
  obtain ⟨φ1, hf1, -, w1, ha1⟩ := hf1
  have w1 := w1 rfl
  rw [show f sc 3 - 1 = hi by omega] at w1
  replace w1 : φ1 = sp_cf1 (f tx) (f sc 1) hi p := w1
  replace hf1 : f1 = (sv_u (sv_u f sc 4 ((sp_cp1 (f tx) (f sc 1) p) + (sp_nl (f tx) (f sc 1) (sp_cp1 (f tx) (f sc 1) p)))) sc 5 φ1) := hf1
  replace ha1 : a1 = if φ1 = -1 then sp_ca (f tx) (f sc 1) p else 0 := ha1
  have ha1b : 0 ≤ a1 ∧ a1 ≤ 99 := by rw [ha1]; unfold sp_ca; split <;> omega
  subst hf1
  refine sv_istore_n (i := 1) dX3_runSwap_5 rfl (by decide) rfl ?_
  refine sv_aload_n (i := 0) dX3_runSwap_6 rfl rfl ?_
  refine sv_iconst dX3_runSwap_7 ?_
  refine sv_vi0 (As := [_]) clX3_63 dX3_runSwap_8 ⟨_, rfl, rfl⟩ (by decide) rfl (Nat.le_of_ble_eq_true rfl) (by decide) (by decide) hsc.lt hsc.k (n_takeIndex hsc h10 ((sp_cp1 (f tx) (f sc 1) p) + (sp_nl (f tx) (f sc 1) (sp_cp1 (f tx) (f sc 1) p))) φ1 (by omega) 0 (by unfold sv_in; omega)) (fun a2 f2 hf2 => ?_)
  obtain ⟨φ2, hf2, v1, v2, ha2⟩ := hf2
  rw [show f sc 3 - 1 = hi by omega] at v2
  replace v2 : φ1 = -1 → φ2 = sp_nf (f tx) (f sc 1) (sp_cp2 (f tx) (f sc 1) p) 0 hi := v2
  replace hf2 : f2 = (sv_u (sv_u f sc 4 ((sp_cp2 (f tx) (f sc 1) p) + (sp_nl (f tx) (f sc 1) (sp_cp2 (f tx) (f sc 1) p)))) sc 5 φ2) := hf2
  replace ha2 : a2 = if φ2 = -1 then sp_nv (f tx) (f sc 1) (sp_cp2 (f tx) (f sc 1) p) else 0 := ha2
  have ha2b : 0 ≤ a2 ∧ a2 ≤ 99 := by rw [ha2]; split <;> omega
  subst hf2
  refine sv_istore_n (i := 2) dX3_runSwap_11 rfl (by decide) rfl ?_
  refine sv_aload_n (i := 0) dX3_runSwap_12 rfl rfl ?_
  refine sv_vv0 (As := []) clX3_70 dX3_runSwap_13 ⟨_, rfl, rfl⟩ (by decide) rfl (Nat.le_of_ble_eq_true rfl) (by decide) (by decide) hsc.lt hsc.k (n_takeSemicolon hsc h10 ((sp_cp2 (f tx) (f sc 1) p) + (sp_nl (f tx) (f sc 1) (sp_cp2 (f tx) (f sc 1) p))) φ2 (by omega)) (fun f3 hf3 => ?_)
  have hs3 := sp_sk_bd (t := f tx) (L := f sc 1) (p := ((sp_cp2 (f tx) (f sc 1) p) + (sp_nl (f tx) (f sc 1) (sp_cp2 (f tx) (f sc 1) p)))) (by omega)
  have he3 : ∃ q9 φ9 : Int, f3 = (sv_u (sv_u f sc 4 q9) sc 5 φ9) ∧ (0 ≤ q9 ∧ q9 ≤ f sc 1) ∧ ((sp_nx (f tx) (f sc 1) (sp_sk (f tx) (f sc 1) ((sp_cp2 (f tx) (f sc 1) p) + (sp_nl (f tx) (f sc 1) (sp_cp2 (f tx) (f sc 1) p)))) = 59 ∧ φ9 = φ2 ∧ q9 = sp_sk (f tx) (f sc 1) ((sp_cp2 (f tx) (f sc 1) p) + (sp_nl (f tx) (f sc 1) (sp_cp2 (f tx) (f sc 1) p))) + 1) ∨ (sp_nx (f tx) (f sc 1) (sp_sk (f tx) (f sc 1) ((sp_cp2 (f tx) (f sc 1) p) + (sp_nl (f tx) (f sc 1) (sp_cp2 (f tx) (f sc 1) p)))) ≠ 59 ∧ φ9 = if φ2 = -1 then sp_sk (f tx) (f sc 1) ((sp_cp2 (f tx) (f sc 1) p) + (sp_nl (f tx) (f sc 1) (sp_cp2 (f tx) (f sc 1) p))) else φ2)) := by
    rcases hf3 with ⟨h1, h2⟩ | ⟨h1, h2⟩
    · have hlt := sp_nx_lt h1 (by decide)
      exact ⟨_, _, h2, by omega, Or.inl ⟨h1, rfl, rfl⟩⟩
    · exact ⟨_, _, h2, by omega, Or.inr ⟨h1, rfl⟩⟩
  obtain ⟨q9, φ9, hf9, hq9, hb9⟩ := he3
  subst hf9
  obtain ⟨hcf, hcp⟩ := sp_idx_semi v1 v2 hb9 (by omega)
  have hcfe : sp_cf (f tx) (f sc 1) hi p = if sp_cf1 (f tx) (f sc 1) hi p ≠ -1 then sp_cf1 (f tx) (f sc 1) hi p else if sp_nf (f tx) (f sc 1) (sp_cp2 (f tx) (f sc 1) p) 0 hi ≠ -1 then sp_nf (f tx) (f sc 1) (sp_cp2 (f tx) (f sc 1) p) 0 hi else if sp_nx (f tx) (f sc 1) (sp_sk (f tx) (f sc 1) ((sp_cp2 (f tx) (f sc 1) p) + (sp_nl (f tx) (f sc 1) (sp_cp2 (f tx) (f sc 1) p)))) = 59 then -1 else sp_sk (f tx) (f sc 1) ((sp_cp2 (f tx) (f sc 1) p) + (sp_nl (f tx) (f sc 1) (sp_cp2 (f tx) (f sc 1) p))) := by
    unfold sp_cf sp_cf2 sp_cf3 sp_cp4 sp_cp3
    simp only [hcw]
    simp
  replace hcf : φ9 = sp_cf (f tx) (f sc 1) hi p := by
    rw [hcf, hcfe, ← w1]
  refine sv_aload_n (i := 0) dX3_runSwap_16 rfl rfl ?_
  refine sv_fr fun hin1 => ?_
  refine sv_getI (kz := 5) flX3_28 dX3_runSwap_17 rfl rfl hsc.lt hsc.k ?_
  rw [sv_F5]
  refine sv_iconst dX3_runSwap_20 ?_
  refine sv_icmp_ne (tgt := 50) dX3_runSwap_21 (by decide) (sv_F5 (f := f) (sc := sc) (q := q9) (a := φ9) ▸ hin1 sc 5) (by first | omega | exact hin _ _ | decide | (simp [sv_u, sv_row]; omega) | (simp [sv_u, sv_row]; exact hin _ _) | exact hin1 _ _ | (simp [sv_u, sv_row]; exact hin1 _ _)) (fun h_21 => ?_) (fun h_21 => ?_)
  · refine sv_return dX3_runSwap_50 rfl ?_
    first
    | (refine ⟨rfl, rfl, rfl, rfl, fun x x0 x1 => sv_Fx_ x0, fun j j4 j5 => sv_Fj j4 j5, by rw [sv_F4]; exact hq9, by rw [sv_F5]; exact hcf, fun h => absurd (hcf.trans h) (by assumption)⟩)
    | (refine ⟨rfl, rfl, rfl, rfl, fun x x0 x1 => by rw [sv_u_ne x1, sv_u_ne x1, sv_Fx_ x0], fun j j4 j5 => by rw [sv_u_ne (Ne.symm hnv), sv_u_ne (Ne.symm hnv), sv_Fj j4 j5], by rw [sv_u_ne (Ne.symm hnv), sv_u_ne (Ne.symm hnv), sv_F4]; exact hq9, by rw [sv_u_ne (Ne.symm hnv), sv_u_ne (Ne.symm hnv), sv_F5]; exact hcf, fun _ => ⟨?_, fun j j0 j1 => ?_⟩⟩
       · rw [sv_u_ne (Ne.symm hnv), sv_u_ne (Ne.symm hnv), sv_F4, z1]; unfold sp_cp4 sp_cp3; simp only [hcw]; simp
       · unfold sp_ex
         rw [hcw, if_neg (by decide), if_neg (by decide), if_pos rfl, ← ha1, hcb]
         rw [sv_u_at, sv_u_at, sp_up_at, sp_up_at, sv_Fx_ hnv]
         by_cases e2 : j = a2
         · rw [if_pos e2, if_pos (by omega)]
         · by_cases e : j = a1
           · rw [if_neg e2, if_pos e, if_neg (show ¬ 583 + j = 583 + a2 by omega), if_pos (show 583 + j = 583 + a1 by omega)]
           · rw [if_neg e2, if_neg e, if_neg (show ¬ 583 + j = 583 + a2 by omega), if_neg (show ¬ 583 + j = 583 + a1 by omega)]
             exact (hm j j0 j1).1)
  · have hφ9 : φ9 = -1 := by assumption
    have hz := hcf.symm.trans hφ9
    have hok := sp_cmd_ok (t := f tx) (L := f sc 1) (hi := hi) (p := p) hp.2 hp.1 hz
    rw [hcw] at hok
    obtain ⟨-, ok1, ok2, ok3, ok4, ok5, ok6⟩ := hok
    obtain ⟨z0, zc, z1⟩ := hcp hφ9
    rw [if_pos z0] at ha1
    rw [if_pos (by rw [v2 z0]; exact zc)] at ha2
    have hcb : sp_cb (f tx) (f sc 1) p = a2 := by unfold sp_cb; rw [hcw, ha2]; simp
    rw [hcb] at ok4
    have ok4 := ok4 rfl
    have hma := hm a1 (by omega) (by omega)
    have hmb := hm a2 (by omega) (by omega)
    refine sv_aload_n (i := 0) dX3_runSwap_24 rfl rfl ?_
    refine sv_getR (kz := 2) flX3_19 dX3_runSwap_25 rfl rfl hsc.lt hsc.k hsc.r2 ?_
    refine sv_iload_n (i := 1) dX3_runSwap_28 rfl rfl ?_
    refine sv_iald dX3_runSwap_29 hsc.l2 hsc.s2 (by omega) ?_
    rw [sv_Fx_ hnv, hma.1]
    refine sv_istore_n (i := 3) dX3_runSwap_30 rfl (by decide) rfl ?_
    refine sv_aload_n (i := 0) dX3_runSwap_31 rfl rfl ?_
    refine sv_getR (kz := 2) flX3_19 dX3_runSwap_32 rfl rfl hsc.lt hsc.k hsc.r2 ?_
    refine sv_iload_n (i := 1) dX3_runSwap_35 rfl rfl ?_
    refine sv_aload_n (i := 0) dX3_runSwap_36 rfl rfl ?_
    refine sv_getR (kz := 2) flX3_19 dX3_runSwap_37 rfl rfl hsc.lt hsc.k hsc.r2 ?_
    refine sv_iload_n (i := 2) dX3_runSwap_40 rfl rfl ?_
    refine sv_iald dX3_runSwap_41 hsc.l2 hsc.s2 (by omega) ?_
    rw [sv_Fx_ hnv, hmb.1]
    refine sv_iast dX3_runSwap_42 hsc.l2 hsc.s2 (by omega) (by unfold sv_in; omega) ?_
    refine sv_aload_n (i := 0) dX3_runSwap_43 rfl rfl ?_
    refine sv_getR (kz := 2) flX3_19 dX3_runSwap_44 rfl rfl hsc.lt hsc.k hsc.r2 ?_
    refine sv_iload_n (i := 2) dX3_runSwap_47 rfl rfl ?_
    refine sv_iload_n (i := 3) dX3_runSwap_48 rfl rfl ?_
    refine sv_iast dX3_runSwap_49 hsc.l2 hsc.s2 (by omega) (by unfold sv_in; omega) ?_
    refine sv_return dX3_runSwap_50 rfl ?_
    first
    | (refine ⟨rfl, rfl, rfl, rfl, fun x x0 x1 => sv_Fx_ x0, fun j j4 j5 => sv_Fj j4 j5, by rw [sv_F4]; exact hq9, by rw [sv_F5]; exact hcf, fun h => absurd (hcf.trans h) (by assumption)⟩)
    | (refine ⟨rfl, rfl, rfl, rfl, fun x x0 x1 => by rw [sv_u_ne x1, sv_u_ne x1, sv_Fx_ x0], fun j j4 j5 => by rw [sv_u_ne (Ne.symm hnv), sv_u_ne (Ne.symm hnv), sv_Fj j4 j5], by rw [sv_u_ne (Ne.symm hnv), sv_u_ne (Ne.symm hnv), sv_F4]; exact hq9, by rw [sv_u_ne (Ne.symm hnv), sv_u_ne (Ne.symm hnv), sv_F5]; exact hcf, fun _ => ⟨?_, fun j j0 j1 => ?_⟩⟩
       · rw [sv_u_ne (Ne.symm hnv), sv_u_ne (Ne.symm hnv), sv_F4, z1]; unfold sp_cp4 sp_cp3; simp only [hcw]; simp
       · unfold sp_ex
         rw [hcw, if_neg (by decide), if_neg (by decide), if_pos rfl, ← ha1, hcb]
         rw [sv_u_at, sv_u_at, sp_up_at, sp_up_at, sv_Fx_ hnv]
         by_cases e2 : j = a2
         · rw [if_pos e2, if_pos (by omega)]
         · by_cases e : j = a1
           · rw [if_neg e2, if_pos e, if_neg (show ¬ 583 + j = 583 + a2 by omega), if_pos (show 583 + j = 583 + a1 by omega)]
           · rw [if_neg e2, if_neg e, if_neg (show ¬ 583 + j = 583 + a2 by omega), if_neg (show ¬ 583 + j = 583 + a1 by omega)]
             exact (hm j j0 j1).1)
set_option maxRecDepth 100000 in
set_option maxHeartbeats 4000000 in
theorem c_X3_runTurn {X : sv_X} {S : sv_S} {f : sv_F} {r : sv_R} {g : sv_G} {sc tx vs : Nat} (hsc : sv_K3 S r sc tx vs) (h10 : f sc 1 ≤ 80) (h5 : f sc 5 = -1) (hi : Int) (h3 : f sc 3 = hi + 1) (hhi : 7 ≤ hi ∧ hi ≤ 11) (p : Int) (hp : 0 ≤ p ∧ p ≤ f sc 1) (hat : f sc 4 = (sp_lt (f tx) (f sc 1) p)) {m : Int → Int} (hm : ∀ j, 0 ≤ j → j ≤ hi → f vs j = m (583 + j) ∧ 0 ≤ m (583 + j) ∧ m (583 + j) ≤ 99) (hcw : sp_cw (f tx) (f sc 1) p = 4) : sv_C X 4 MX3_runTurn 0 0 [sv_r sc] S f r g (sv_qv (fun f' => sv_rp sc vs (f tx) (f sc 1) hi p m f f') S r g) := by
  refine sv_met (by decide) (by simp [lg_sl, sv_cv, va_rf, Value.category]) ?_
  refine sv_fr fun hin => ?_
  have hne : tx ≠ sc := hsc.2.2.2.2.1
  have hnv : vs ≠ sc := hsc.2.2.2.2.2.1
  have hnt : tx ≠ vs := hsc.2.2.2.2.2.2
  have hb0 := sp_lt_bd (t := f tx) hp.2
  have hb1 : (sp_cp1 (f tx) (f sc 1) p) ≤ f sc 1 ∧ 0 ≤ (sp_cp1 (f tx) (f sc 1) p) := by have := sp_sk_bd (t := f tx) hb0.2; unfold sp_cp1; omega
  have hn1 := sp_nl_bd (t := f tx) hb1.1
  have hb2 : (sp_cp2 (f tx) (f sc 1) p) ≤ f sc 1 ∧ 0 ≤ (sp_cp2 (f tx) (f sc 1) p) := by have := sp_sk_bd (t := f tx) hn1.2; unfold sp_cp2; omega
  have hn2 := sp_nl_bd (t := f tx) hb2.1
  have hnv1 := sp_nv_bd (f tx) (f sc 1) (sp_cp1 (f tx) (f sc 1) p)
  have hnv2 := sp_nv_bd (f tx) (f sc 1) (sp_cp2 (f tx) (f sc 1) p)
  refine sv_cast (f' := (sv_u (sv_u f sc 4 (sp_lt (f tx) (f sc 1) p)) sc 5 (-1))) ?_ rfl rfl rfl rfl rfl (sv_Fself hat h5)
  refine sv_aload_n (i := 0) dX3_runTurn_0 rfl rfl ?_
  refine sv_iconst dX3_runTurn_1 ?_
  refine sv_vi0 (As := [_]) clX3_63 dX3_runTurn_2 ⟨_, rfl, rfl⟩ (by decide) rfl (Nat.le_of_ble_eq_true rfl) (by decide) (by decide) hsc.lt hsc.k (n_takeIndex hsc h10 (sp_lt (f tx) (f sc 1) p) (-1) (by omega) 0 (by decide)) (fun a1 f1 hf1 => ?_)
  obtain ⟨φ1, hf1, -, w1, ha1⟩ := hf1
  have w1 := w1 rfl
  rw [show f sc 3 - 1 = hi by omega] at w1
  replace w1 : φ1 = sp_cf1 (f tx) (f sc 1) hi p := w1
  replace hf1 : f1 = (sv_u (sv_u f sc 4 ((sp_cp1 (f tx) (f sc 1) p) + (sp_nl (f tx) (f sc 1) (sp_cp1 (f tx) (f sc 1) p)))) sc 5 φ1) := hf1
  replace ha1 : a1 = if φ1 = -1 then sp_ca (f tx) (f sc 1) p else 0 := ha1
  have ha1b : 0 ≤ a1 ∧ a1 ≤ 99 := by rw [ha1]; unfold sp_ca; split <;> omega
  subst hf1
  refine sv_istore_n (i := 1) dX3_runTurn_5 rfl (by decide) rfl ?_
  refine sv_aload_n (i := 0) dX3_runTurn_6 rfl rfl ?_
  refine sv_iload_n (i := 1) dX3_runTurn_7 rfl rfl ?_
  refine sv_vi0 (As := [_]) clX3_63 dX3_runTurn_8 ⟨_, rfl, rfl⟩ (by decide) rfl (Nat.le_of_ble_eq_true rfl) (by decide) (by decide) hsc.lt hsc.k (n_takeIndex hsc h10 ((sp_cp1 (f tx) (f sc 1) p) + (sp_nl (f tx) (f sc 1) (sp_cp1 (f tx) (f sc 1) p))) φ1 (by omega) a1 (by unfold sv_in; omega)) (fun a2 f2 hf2 => ?_)
  obtain ⟨φ2, hf2, v1, v2, ha2⟩ := hf2
  rw [show f sc 3 - 1 = hi by omega] at v2
  replace v2 : φ1 = -1 → φ2 = sp_nf (f tx) (f sc 1) (sp_cp2 (f tx) (f sc 1) p) a1 hi := v2
  replace hf2 : f2 = (sv_u (sv_u f sc 4 ((sp_cp2 (f tx) (f sc 1) p) + (sp_nl (f tx) (f sc 1) (sp_cp2 (f tx) (f sc 1) p)))) sc 5 φ2) := hf2
  replace ha2 : a2 = if φ2 = -1 then sp_nv (f tx) (f sc 1) (sp_cp2 (f tx) (f sc 1) p) else 0 := ha2
  have ha2b : 0 ≤ a2 ∧ a2 ≤ 99 := by rw [ha2]; split <;> omega
  subst hf2
  refine sv_istore_n (i := 2) dX3_runTurn_11 rfl (by decide) rfl ?_
  refine sv_aload_n (i := 0) dX3_runTurn_12 rfl rfl ?_
  refine sv_vv0 (As := []) clX3_70 dX3_runTurn_13 ⟨_, rfl, rfl⟩ (by decide) rfl (Nat.le_of_ble_eq_true rfl) (by decide) (by decide) hsc.lt hsc.k (n_takeSemicolon hsc h10 ((sp_cp2 (f tx) (f sc 1) p) + (sp_nl (f tx) (f sc 1) (sp_cp2 (f tx) (f sc 1) p))) φ2 (by omega)) (fun f3 hf3 => ?_)
  have hs3 := sp_sk_bd (t := f tx) (L := f sc 1) (p := ((sp_cp2 (f tx) (f sc 1) p) + (sp_nl (f tx) (f sc 1) (sp_cp2 (f tx) (f sc 1) p)))) (by omega)
  have he3 : ∃ q9 φ9 : Int, f3 = (sv_u (sv_u f sc 4 q9) sc 5 φ9) ∧ (0 ≤ q9 ∧ q9 ≤ f sc 1) ∧ ((sp_nx (f tx) (f sc 1) (sp_sk (f tx) (f sc 1) ((sp_cp2 (f tx) (f sc 1) p) + (sp_nl (f tx) (f sc 1) (sp_cp2 (f tx) (f sc 1) p)))) = 59 ∧ φ9 = φ2 ∧ q9 = sp_sk (f tx) (f sc 1) ((sp_cp2 (f tx) (f sc 1) p) + (sp_nl (f tx) (f sc 1) (sp_cp2 (f tx) (f sc 1) p))) + 1) ∨ (sp_nx (f tx) (f sc 1) (sp_sk (f tx) (f sc 1) ((sp_cp2 (f tx) (f sc 1) p) + (sp_nl (f tx) (f sc 1) (sp_cp2 (f tx) (f sc 1) p)))) ≠ 59 ∧ φ9 = if φ2 = -1 then sp_sk (f tx) (f sc 1) ((sp_cp2 (f tx) (f sc 1) p) + (sp_nl (f tx) (f sc 1) (sp_cp2 (f tx) (f sc 1) p))) else φ2)) := by
    rcases hf3 with ⟨h1, h2⟩ | ⟨h1, h2⟩
    · have hlt := sp_nx_lt h1 (by decide)
      exact ⟨_, _, h2, by omega, Or.inl ⟨h1, rfl, rfl⟩⟩
    · exact ⟨_, _, h2, by omega, Or.inr ⟨h1, rfl⟩⟩
  obtain ⟨q9, φ9, hf9, hq9, hb9⟩ := he3
  subst hf9
  obtain ⟨hcf, hcp⟩ := sp_idx_semi v1 v2 hb9 (by omega)
  have hcfe : sp_cf (f tx) (f sc 1) hi p = if sp_cf1 (f tx) (f sc 1) hi p ≠ -1 then sp_cf1 (f tx) (f sc 1) hi p else if sp_nf (f tx) (f sc 1) (sp_cp2 (f tx) (f sc 1) p) (sp_ca (f tx) (f sc 1) p) hi ≠ -1 then sp_nf (f tx) (f sc 1) (sp_cp2 (f tx) (f sc 1) p) (sp_ca (f tx) (f sc 1) p) hi else if sp_nx (f tx) (f sc 1) (sp_sk (f tx) (f sc 1) ((sp_cp2 (f tx) (f sc 1) p) + (sp_nl (f tx) (f sc 1) (sp_cp2 (f tx) (f sc 1) p)))) = 59 then -1 else sp_sk (f tx) (f sc 1) ((sp_cp2 (f tx) (f sc 1) p) + (sp_nl (f tx) (f sc 1) (sp_cp2 (f tx) (f sc 1) p))) := by
    unfold sp_cf sp_cf2 sp_cf3 sp_cp4 sp_cp3
    simp only [hcw]
    simp
  replace hcf : φ9 = sp_cf (f tx) (f sc 1) hi p := by
    rw [hcf, hcfe, ← w1]
    by_cases h1 : φ1 = -1
    · rw [show a1 = sp_ca (f tx) (f sc 1) p by rw [ha1, if_pos h1]]
    · rw [if_pos h1, if_pos h1]
  refine sv_aload_n (i := 0) dX3_runTurn_16 rfl rfl ?_
  refine sv_fr fun hin1 => ?_
  refine sv_getI (kz := 5) flX3_28 dX3_runTurn_17 rfl rfl hsc.lt hsc.k ?_
  rw [sv_F5]
  refine sv_iconst dX3_runTurn_20 ?_
  refine sv_icmp_ne (tgt := 69) dX3_runTurn_21 (by decide) (sv_F5 (f := f) (sc := sc) (q := q9) (a := φ9) ▸ hin1 sc 5) (by first | omega | exact hin _ _ | decide | (simp [sv_u, sv_row]; omega) | (simp [sv_u, sv_row]; exact hin _ _) | exact hin1 _ _ | (simp [sv_u, sv_row]; exact hin1 _ _)) (fun h_21 => ?_) (fun h_21 => ?_)
  · refine sv_return dX3_runTurn_69 rfl ?_
    exact ⟨rfl, rfl, rfl, rfl, fun x x0 x1 => sv_Fx_ x0, fun j j4 j5 => sv_Fj j4 j5, by rw [sv_F4]; exact hq9, by rw [sv_F5]; exact hcf, fun h => absurd (hcf.trans h) (by assumption)⟩
  · have hφ9 : φ9 = -1 := by assumption
    have hz := hcf.symm.trans hφ9
    have hok := sp_cmd_ok (t := f tx) (L := f sc 1) (hi := hi) (p := p) hp.2 hp.1 hz
    rw [hcw] at hok
    obtain ⟨-, ok1, ok2, ok3, ok4, ok5, ok6⟩ := hok
    obtain ⟨z0, zc, z1⟩ := hcp hφ9
    rw [if_pos z0] at ha1
    rw [if_pos (by rw [v2 z0]; exact zc)] at ha2
    have hcb : sp_cb (f tx) (f sc 1) p = a2 := by unfold sp_cb; rw [hcw, ha2]; simp
    rw [hcb, ← ha1] at ok5
    have ok5 := ok5 (by decide)
    have hma := hm a1 (by omega) (by omega)
    have hmb := hm a2 (by omega) (by omega)
    refine sv_aload_n (i := 0) dX3_runTurn_24 rfl rfl ?_
    refine sv_getR (kz := 2) flX3_19 dX3_runTurn_25 rfl rfl hsc.lt hsc.k hsc.r2 ?_
    refine sv_iload_n (i := 2) dX3_runTurn_28 rfl rfl ?_
    refine sv_iald dX3_runTurn_29 hsc.l2 hsc.s2 (by omega) ?_
    rw [sv_Fx_ hnv, hmb.1]
    have lp : ∀ (kk : Nat) (i : Int), i - a1 < (kk : Int) → (a1 ≤ i ∧ i ≤ a2) → sv_T X (sv_rm 4 0 0) MX3_runTurn (sv_Zm X 0 0 (sv_qv (fun f' => sv_rp sc vs (f tx) (f sc 1) hi p m f f') S r g)) 0 0 34 [some (sv_r sc), some (sv_i a1), some (sv_i a2), some (sv_i (m (583 + a2))), some (sv_i i)] [] S ((sv_row (sv_u (sv_u f sc 4 q9) sc 5 φ9) vs (fun j => if i < j ∧ j ≤ a2 then m (583 + (j - 1)) else f vs j))) r g := by
      intro kk
      induction kk with
      | zero =>
        intro i hkk h1
        exact absurd hkk (by omega)
      | succ kk ih =>
        intro i hkk h1
        refine sv_iload dX3_runTurn_34 rfl ?_
        refine sv_iload_n (i := 1) dX3_runTurn_36 rfl rfl ?_
        refine sv_icmp_le (tgt := 62) dX3_runTurn_37 (by decide) (by unfold sv_in; omega) (by unfold sv_in; omega) (fun h_37 => ?_) (fun h_37 => ?_)
        · refine sv_aload_n (i := 0) dX3_runTurn_62 rfl rfl ?_
          refine sv_getR (kz := 2) flX3_19 dX3_runTurn_63 rfl rfl hsc.lt hsc.k hsc.r2 ?_
          refine sv_iload_n (i := 1) dX3_runTurn_66 rfl rfl ?_
          refine sv_iload_n (i := 3) dX3_runTurn_67 rfl rfl ?_
          refine sv_iast dX3_runTurn_68 hsc.l2 hsc.s2 (by omega) (by unfold sv_in; omega) ?_
          refine sv_return dX3_runTurn_69 rfl ?_
          have ei : i = a1 := by omega
          subst ei
          refine ⟨rfl, rfl, rfl, rfl, fun x x0 x1 => by rw [sv_u_ne x1, sv_row_ne x1, sv_Fx_ x0], fun j j4 j5 => by rw [sv_u_ne (Ne.symm hnv), sv_row_ne (Ne.symm hnv), sv_Fj j4 j5], by rw [sv_u_ne (Ne.symm hnv), sv_row_ne (Ne.symm hnv), sv_F4]; exact hq9, by rw [sv_u_ne (Ne.symm hnv), sv_row_ne (Ne.symm hnv), sv_F5]; exact hcf, fun _ => ⟨?_, fun j j0 j1 => ?_⟩⟩
          · rw [sv_u_ne (Ne.symm hnv), sv_row_ne (Ne.symm hnv), sv_F4, z1]; unfold sp_cp4 sp_cp3; simp only [hcw]; simp
          · unfold sp_ex
            rw [hcw, if_neg (by decide), if_neg (by decide), if_neg (by decide), if_neg (by decide), ← ha1, hcb]
            rw [sv_u_at, sv_row_eq]
            by_cases e2 : j = i
            · rw [if_pos e2, if_pos (by omega)]
            · by_cases e : i < j ∧ j ≤ a2
              · rw [if_neg e2, if_pos e, if_neg (show ¬ 583 + j = 583 + i by omega), if_pos (by omega)]
                exact congrArg m (by omega)
              · rw [if_neg e2, if_neg e, if_neg (show ¬ 583 + j = 583 + i by omega), if_neg (by omega)]
                exact (hm j j0 j1).1
        · refine sv_aload_n (i := 0) dX3_runTurn_40 rfl rfl ?_
          refine sv_getR (kz := 2) flX3_19 dX3_runTurn_41 rfl rfl hsc.lt hsc.k hsc.r2 ?_
          refine sv_iload dX3_runTurn_44 rfl ?_
          refine sv_aload_n (i := 0) dX3_runTurn_46 rfl rfl ?_
          refine sv_getR (kz := 2) flX3_19 dX3_runTurn_47 rfl rfl hsc.lt hsc.k hsc.r2 ?_
          refine sv_iload dX3_runTurn_50 rfl ?_
          refine sv_iconst dX3_runTurn_52 ?_
          refine sv_isub dX3_runTurn_53 ?_
          refine sv_iald dX3_runTurn_54 hsc.l2 hsc.s2 (by omega) ?_
          rw [sv_row_eq]
          rw [if_neg (by omega), (hm (i - 1) (by omega) (by omega)).1]
          refine sv_iast dX3_runTurn_55 hsc.l2 hsc.s2 (by omega) (by have := (hm (i - 1) (by omega) (by omega)).2; unfold sv_in; omega) ?_
          refine sv_iinc dX3_runTurn_56 rfl (by decide) rfl ?_
          refine sv_goto (tgt := 34) dX3_runTurn_59 (by decide) ?_
          refine sv_cast (ih (i - 1) (by omega) (by omega)) rfl rfl rfl ?_ rfl ?_
          · simp [sv_ent]; try omega
          · funext x y
            by_cases hx : x = vs
            · subst hx
              rw [sv_row_eq, sv_u_at, sv_row_eq]
              by_cases e : y = i
              · rw [if_pos e, if_pos (by omega), e]
              · rw [if_neg e]
                by_cases e2 : i < y ∧ y ≤ a2
                · rw [if_pos e2, if_pos (by omega)]
                · rw [if_neg e2, if_neg (by omega)]
            · rw [sv_row_ne hx, sv_u_ne hx, sv_row_ne hx]
    refine sv_istore_n (i := 3) dX3_runTurn_30 rfl (by decide) rfl ?_
    refine sv_iload_n (i := 2) dX3_runTurn_31 rfl rfl ?_
    refine sv_istore dX3_runTurn_32 (by decide) rfl ?_
    refine sv_cast (lp (a2 - a1 + 1).toNat a2 (by omega) (by omega)) rfl rfl rfl rfl rfl ?_
    funext x y
    by_cases hx : x = vs
    · subst hx; rw [sv_row_eq, if_neg (by omega), sv_Fx_ hnv]
    · rw [sv_row_ne hx]
set_option maxRecDepth 100000 in
set_option maxHeartbeats 4000000 in
theorem c_X3_runFill {X : sv_X} {S : sv_S} {f : sv_F} {r : sv_R} {g : sv_G} {sc tx vs : Nat} (hsc : sv_K3 S r sc tx vs) (h10 : f sc 1 ≤ 80) (h5 : f sc 5 = -1) (hi : Int) (h3 : f sc 3 = hi + 1) (hhi : 7 ≤ hi ∧ hi ≤ 11) (p : Int) (hp : 0 ≤ p ∧ p ≤ f sc 1) (hat : f sc 4 = (sp_lt (f tx) (f sc 1) p)) {m : Int → Int} (hm : ∀ j, 0 ≤ j → j ≤ hi → f vs j = m (583 + j) ∧ 0 ≤ m (583 + j) ∧ m (583 + j) ≤ 99) (hcw : sp_cw (f tx) (f sc 1) p = 3) : sv_C X 4 MX3_runFill 0 0 [sv_r sc] S f r g (sv_qv (fun f' => sv_rp sc vs (f tx) (f sc 1) hi p m f f') S r g) := by
  refine sv_met (by decide) (by simp [lg_sl, sv_cv, va_rf, Value.category]) ?_
  refine sv_fr fun hin => ?_
  have hne : tx ≠ sc := hsc.2.2.2.2.1
  have hnv : vs ≠ sc := hsc.2.2.2.2.2.1
  have hnt : tx ≠ vs := hsc.2.2.2.2.2.2
  have hb0 := sp_lt_bd (t := f tx) hp.2
  have hb1 : (sp_cp1 (f tx) (f sc 1) p) ≤ f sc 1 ∧ 0 ≤ (sp_cp1 (f tx) (f sc 1) p) := by have := sp_sk_bd (t := f tx) hb0.2; unfold sp_cp1; omega
  have hn1 := sp_nl_bd (t := f tx) hb1.1
  have hb2 : (sp_cp2 (f tx) (f sc 1) p) ≤ f sc 1 ∧ 0 ≤ (sp_cp2 (f tx) (f sc 1) p) := by have := sp_sk_bd (t := f tx) hn1.2; unfold sp_cp2; omega
  have hn2 := sp_nl_bd (t := f tx) hb2.1
  have hnv1 := sp_nv_bd (f tx) (f sc 1) (sp_cp1 (f tx) (f sc 1) p)
  have hnv2 := sp_nv_bd (f tx) (f sc 1) (sp_cp2 (f tx) (f sc 1) p)
  refine sv_cast (f' := (sv_u (sv_u f sc 4 (sp_lt (f tx) (f sc 1) p)) sc 5 (-1))) ?_ rfl rfl rfl rfl rfl (sv_Fself hat h5)
  refine sv_aload_n (i := 0) dX3_runFill_0 rfl rfl ?_
  refine sv_iconst dX3_runFill_1 ?_
  refine sv_vi0 (As := [_]) clX3_63 dX3_runFill_2 ⟨_, rfl, rfl⟩ (by decide) rfl (Nat.le_of_ble_eq_true rfl) (by decide) (by decide) hsc.lt hsc.k (n_takeIndex hsc h10 (sp_lt (f tx) (f sc 1) p) (-1) (by omega) 0 (by decide)) (fun a1 f1 hf1 => ?_)
  obtain ⟨φ1, hf1, -, w1, ha1⟩ := hf1
  have w1 := w1 rfl
  rw [show f sc 3 - 1 = hi by omega] at w1
  replace w1 : φ1 = sp_cf1 (f tx) (f sc 1) hi p := w1
  replace hf1 : f1 = (sv_u (sv_u f sc 4 ((sp_cp1 (f tx) (f sc 1) p) + (sp_nl (f tx) (f sc 1) (sp_cp1 (f tx) (f sc 1) p)))) sc 5 φ1) := hf1
  replace ha1 : a1 = if φ1 = -1 then sp_ca (f tx) (f sc 1) p else 0 := ha1
  have ha1b : 0 ≤ a1 ∧ a1 ≤ 99 := by rw [ha1]; unfold sp_ca; split <;> omega
  subst hf1
  refine sv_istore_n (i := 1) dX3_runFill_5 rfl (by decide) rfl ?_
  refine sv_aload_n (i := 0) dX3_runFill_6 rfl rfl ?_
  refine sv_iload_n (i := 1) dX3_runFill_7 rfl rfl ?_
  refine sv_vi0 (As := [_]) clX3_63 dX3_runFill_8 ⟨_, rfl, rfl⟩ (by decide) rfl (Nat.le_of_ble_eq_true rfl) (by decide) (by decide) hsc.lt hsc.k (n_takeIndex hsc h10 ((sp_cp1 (f tx) (f sc 1) p) + (sp_nl (f tx) (f sc 1) (sp_cp1 (f tx) (f sc 1) p))) φ1 (by omega) a1 (by unfold sv_in; omega)) (fun a2 f2 hf2 => ?_)
  obtain ⟨φ2, hf2, v1, v2, ha2⟩ := hf2
  rw [show f sc 3 - 1 = hi by omega] at v2
  replace v2 : φ1 = -1 → φ2 = sp_nf (f tx) (f sc 1) (sp_cp2 (f tx) (f sc 1) p) a1 hi := v2
  replace hf2 : f2 = (sv_u (sv_u f sc 4 ((sp_cp2 (f tx) (f sc 1) p) + (sp_nl (f tx) (f sc 1) (sp_cp2 (f tx) (f sc 1) p)))) sc 5 φ2) := hf2
  replace ha2 : a2 = if φ2 = -1 then sp_nv (f tx) (f sc 1) (sp_cp2 (f tx) (f sc 1) p) else 0 := ha2
  have ha2b : 0 ≤ a2 ∧ a2 ≤ 99 := by rw [ha2]; split <;> omega
  subst hf2
  refine sv_istore_n (i := 2) dX3_runFill_11 rfl (by decide) rfl ?_
  refine sv_aload_n (i := 0) dX3_runFill_12 rfl rfl ?_
  refine sv_vi0 (As := []) clX3_67 dX3_runFill_13 ⟨_, rfl, rfl⟩ (by decide) rfl (Nat.le_of_ble_eq_true rfl) (by decide) (by decide) hsc.lt hsc.k (n_takeNumber hsc h10 ((sp_cp2 (f tx) (f sc 1) p) + (sp_nl (f tx) (f sc 1) (sp_cp2 (f tx) (f sc 1) p))) φ2 (by omega)) (fun a3 f3 hf3 => ?_)
  have hb3 := sp_sk_bd (t := f tx) hn2.2
  obtain ⟨ha3, q3, φ3, qa3, qb3, hf3, v3, v4⟩ := hf3
  replace ha3 : a3 = sp_nv (f tx) (f sc 1) (sp_sk (f tx) (f sc 1) ((sp_cp2 (f tx) (f sc 1) p) + (sp_nl (f tx) (f sc 1) (sp_cp2 (f tx) (f sc 1) p)))) := ha3
  replace v4 : φ2 = -1 → φ3 = (if sp_dg (f tx) (f sc 1) (sp_sk (f tx) (f sc 1) ((sp_cp2 (f tx) (f sc 1) p) + (sp_nl (f tx) (f sc 1) (sp_cp2 (f tx) (f sc 1) p)))) = true then -1 else (sp_sk (f tx) (f sc 1) ((sp_cp2 (f tx) (f sc 1) p) + (sp_nl (f tx) (f sc 1) (sp_cp2 (f tx) (f sc 1) p))))) ∧ (φ3 = -1 → q3 = (sp_sk (f tx) (f sc 1) ((sp_cp2 (f tx) (f sc 1) p) + (sp_nl (f tx) (f sc 1) (sp_cp2 (f tx) (f sc 1) p)))) + sp_nl (f tx) (f sc 1) (sp_sk (f tx) (f sc 1) ((sp_cp2 (f tx) (f sc 1) p) + (sp_nl (f tx) (f sc 1) (sp_cp2 (f tx) (f sc 1) p))))) := v4
  subst hf3
  refine sv_istore_n (i := 3) dX3_runFill_16 rfl (by decide) rfl ?_
  refine sv_aload_n (i := 0) dX3_runFill_17 rfl rfl ?_
  refine sv_vv0 (As := []) clX3_70 dX3_runFill_18 ⟨_, rfl, rfl⟩ (by decide) rfl (Nat.le_of_ble_eq_true rfl) (by decide) (by decide) hsc.lt hsc.k (n_takeSemicolon hsc h10 q3 φ3 (by omega)) (fun f4 hf4 => ?_)
  have hs4 := sp_sk_bd (t := f tx) (L := f sc 1) (p := q3) (by omega)
  have he4 : ∃ q9 φ9 : Int, f4 = (sv_u (sv_u f sc 4 q9) sc 5 φ9) ∧ (0 ≤ q9 ∧ q9 ≤ f sc 1) ∧ ((sp_nx (f tx) (f sc 1) (sp_sk (f tx) (f sc 1) q3) = 59 ∧ φ9 = φ3 ∧ q9 = sp_sk (f tx) (f sc 1) q3 + 1) ∨ (sp_nx (f tx) (f sc 1) (sp_sk (f tx) (f sc 1) q3) ≠ 59 ∧ φ9 = if φ3 = -1 then sp_sk (f tx) (f sc 1) q3 else φ3)) := by
    rcases hf4 with ⟨h1, h2⟩ | ⟨h1, h2⟩
    · have hlt := sp_nx_lt h1 (by decide)
      exact ⟨_, _, h2, by omega, Or.inl ⟨h1, rfl, rfl⟩⟩
    · exact ⟨_, _, h2, by omega, Or.inr ⟨h1, rfl⟩⟩
  obtain ⟨q9, φ9, hf9, hq9, hb9⟩ := he4
  subst hf9
  obtain ⟨hcf, hcp⟩ := sp_num_semi (P := (sp_sk (f tx) (f sc 1) ((sp_cp2 (f tx) (f sc 1) p) + (sp_nl (f tx) (f sc 1) (sp_cp2 (f tx) (f sc 1) p))))) (by omega) v3 v4 hb9 (by omega)
  have hcfe : sp_cf (f tx) (f sc 1) hi p = if sp_cf1 (f tx) (f sc 1) hi p ≠ -1 then sp_cf1 (f tx) (f sc 1) hi p else if sp_nf (f tx) (f sc 1) (sp_cp2 (f tx) (f sc 1) p) (sp_ca (f tx) (f sc 1) p) hi ≠ -1 then sp_nf (f tx) (f sc 1) (sp_cp2 (f tx) (f sc 1) p) (sp_ca (f tx) (f sc 1) p) hi else if sp_nf (f tx) (f sc 1) (sp_sk (f tx) (f sc 1) ((sp_cp2 (f tx) (f sc 1) p) + (sp_nl (f tx) (f sc 1) (sp_cp2 (f tx) (f sc 1) p)))) 0 99 ≠ -1 then sp_nf (f tx) (f sc 1) (sp_sk (f tx) (f sc 1) ((sp_cp2 (f tx) (f sc 1) p) + (sp_nl (f tx) (f sc 1) (sp_cp2 (f tx) (f sc 1) p)))) 0 99 else if sp_nx (f tx) (f sc 1) (sp_sk (f tx) (f sc 1) ((sp_sk (f tx) (f sc 1) ((sp_cp2 (f tx) (f sc 1) p) + (sp_nl (f tx) (f sc 1) (sp_cp2 (f tx) (f sc 1) p)))) + sp_nl (f tx) (f sc 1) (sp_sk (f tx) (f sc 1) ((sp_cp2 (f tx) (f sc 1) p) + (sp_nl (f tx) (f sc 1) (sp_cp2 (f tx) (f sc 1) p)))))) = 59 then -1 else sp_sk (f tx) (f sc 1) ((sp_sk (f tx) (f sc 1) ((sp_cp2 (f tx) (f sc 1) p) + (sp_nl (f tx) (f sc 1) (sp_cp2 (f tx) (f sc 1) p)))) + sp_nl (f tx) (f sc 1) (sp_sk (f tx) (f sc 1) ((sp_cp2 (f tx) (f sc 1) p) + (sp_nl (f tx) (f sc 1) (sp_cp2 (f tx) (f sc 1) p))))) := by
    unfold sp_cf sp_cf2 sp_cf3 sp_cp4 sp_cp3
    simp only [hcw]
    simp
  replace hcf : φ9 = sp_cf (f tx) (f sc 1) hi p := by
    rw [hcf, hcfe, ← w1]
    by_cases h1 : φ1 = -1
    · rw [v2 h1, show a1 = sp_ca (f tx) (f sc 1) p by rw [ha1, if_pos h1], if_neg (show ¬ φ1 ≠ -1 by omega)]
    · rw [v1 h1, if_pos h1, if_pos h1]
  refine sv_aload_n (i := 0) dX3_runFill_21 rfl rfl ?_
  refine sv_fr fun hin1 => ?_
  refine sv_getI (kz := 5) flX3_28 dX3_runFill_22 rfl rfl hsc.lt hsc.k ?_
  rw [sv_F5]
  refine sv_iconst dX3_runFill_25 ?_
  refine sv_icmp_ne (tgt := 52) dX3_runFill_26 (by decide) (sv_F5 (f := f) (sc := sc) (q := q9) (a := φ9) ▸ hin1 sc 5) (by first | omega | exact hin _ _ | decide | (simp [sv_u, sv_row]; omega) | (simp [sv_u, sv_row]; exact hin _ _) | exact hin1 _ _ | (simp [sv_u, sv_row]; exact hin1 _ _)) (fun h_26 => ?_) (fun h_26 => ?_)
  · refine sv_return dX3_runFill_52 rfl ?_
    exact ⟨rfl, rfl, rfl, rfl, fun x x0 x1 => sv_Fx_ x0, fun j j4 j5 => sv_Fj j4 j5, by rw [sv_F4]; exact hq9, by rw [sv_F5]; exact hcf, fun h => absurd (hcf.trans h) (by assumption)⟩
  · have hφ9 : φ9 = -1 := by assumption
    have hz := hcf.symm.trans hφ9
    have hok := sp_cmd_ok (t := f tx) (L := f sc 1) (hi := hi) (p := p) hp.2 hp.1 hz
    rw [hcw] at hok
    obtain ⟨-, ok1, ok2, ok3, ok4, ok5, ok6⟩ := hok
    obtain ⟨z0, z1⟩ := hcp hφ9
    have z2 : φ1 = -1 := by
      by_cases h : φ1 = -1
      · exact h
      · have := v1 h; omega
    rw [if_pos z2] at ha1
    rw [if_pos z0] at ha2
    have hcb : sp_cb (f tx) (f sc 1) p = a2 := by unfold sp_cb; rw [hcw, ha2]; simp
    have hcc3 : sp_cc (f tx) (f sc 1) p = a3 := by unfold sp_cc sp_cp3; rw [if_pos hcw, if_neg (by rw [hcw]; decide), ha3]
    rw [hcb, ← ha1] at ok5
    rw [hcc3] at ok6
    have ok5 := ok5 (by decide)
    have lp : ∀ (kk : Nat) (i : Int), a2 + 1 - i < (kk : Int) → (a1 ≤ i ∧ i ≤ a2 + 1) → sv_T X (sv_rm 4 0 0) MX3_runFill (sv_Zm X 0 0 (sv_qv (fun f' => sv_rp sc vs (f tx) (f sc 1) hi p m f f') S r g)) 0 0 32 [some (sv_r sc), some (sv_i a1), some (sv_i a2), some (sv_i a3), some (sv_i i)] [] S ((sv_row (sv_u (sv_u f sc 4 q9) sc 5 φ9) vs (fun j => if a1 ≤ j ∧ j < i then a3 else (sv_u (sv_u f sc 4 q9) sc 5 φ9) vs j))) r g := by
      intro kk
      induction kk with
      | zero =>
        intro i hkk h1
        exact absurd hkk (by omega)
      | succ kk ih =>
        intro i hkk h1
        refine sv_iload dX3_runFill_32 rfl ?_
        refine sv_iload_n (i := 2) dX3_runFill_34 rfl rfl ?_
        refine sv_icmp_gt (tgt := 52) dX3_runFill_35 (by decide) (by unfold sv_in; omega) (by unfold sv_in; omega) (fun h_35 => ?_) (fun h_35 => ?_)
        · refine sv_return dX3_runFill_52 rfl ?_
          have ei : i = a2 + 1 := by omega
          subst ei
          refine ⟨rfl, rfl, rfl, rfl, fun x x0 x1 => by rw [sv_row_ne x1, sv_Fx_ x0], fun j j4 j5 => by rw [sv_row_ne (Ne.symm hnv), sv_Fj j4 j5], by rw [sv_row_ne (Ne.symm hnv), sv_F4]; exact hq9, by rw [sv_row_ne (Ne.symm hnv), sv_F5]; exact hcf, fun _ => ⟨?_, fun j j0 j1 => ?_⟩⟩
          · rw [sv_row_ne (Ne.symm hnv), sv_F4, z1]; unfold sp_cp4 sp_cp3; simp only [hcw]; simp
          · unfold sp_ex
            rw [hcw, if_neg (by decide), if_neg (by decide), if_neg (by decide), if_pos rfl, ← ha1, hcb, hcc3]
            rw [sv_row_eq, sv_Fx_ hnv]
            try dsimp only
            by_cases e : a1 ≤ j ∧ j < a2 + 1
            · rw [if_pos e, if_pos (by omega)]
            · rw [if_neg e, if_neg (by omega)]
              exact (hm j j0 j1).1
        · refine sv_aload_n (i := 0) dX3_runFill_38 rfl rfl ?_
          refine sv_getR (kz := 2) flX3_19 dX3_runFill_39 rfl rfl hsc.lt hsc.k hsc.r2 ?_
          refine sv_iload dX3_runFill_42 rfl ?_
          refine sv_iload_n (i := 3) dX3_runFill_44 rfl rfl ?_
          refine sv_iast dX3_runFill_45 hsc.l2 hsc.s2 (by omega) (by unfold sv_in; omega) ?_
          refine sv_iinc dX3_runFill_46 rfl (by decide) rfl ?_
          refine sv_goto (tgt := 32) dX3_runFill_49 (by decide) ?_
          refine sv_cast (ih (i + 1) (by omega) (by omega)) rfl rfl rfl rfl rfl ?_
          funext x y
          by_cases hx : x = vs
          · subst hx
            rw [sv_row_eq, sv_u_at, sv_row_eq]
            by_cases e : y = i
            · rw [if_pos e, if_pos (by omega)]
            · rw [if_neg e]
              by_cases e2 : a1 ≤ y ∧ y < i
              · rw [if_pos e2, if_pos (by omega)]
              · rw [if_neg e2, if_neg (by omega)]
          · rw [sv_row_ne hx, sv_u_ne hx, sv_row_ne hx]
    refine sv_iload_n (i := 1) dX3_runFill_29 rfl rfl ?_
    refine sv_istore dX3_runFill_30 (by decide) rfl ?_
    refine sv_cast (lp (a2 + 1 - a1 + 1).toNat a1 (by omega) (by omega)) rfl rfl rfl rfl rfl ?_
    funext x y
    by_cases hx : x = vs
    · subst hx; rw [sv_row_eq, if_neg (by omega)]
    · rw [sv_row_ne hx]
