theorem sv_u_at {f : sv_F} {i : Nat} {j a k : Int} : sv_u f i j a i k = if k = j then a else f i k := by simp [sv_u]
theorem sp_up_at {m : Int → Int} {i a j : Int} : sp_up m i a j = if j = i then a else m j := rfl
theorem sp_num_semi {t : Int → Int} {L P q2 φ1 φ2 φ3 q3 : Int} (hP : 0 ≤ P) (a1 : φ1 ≠ -1 → φ2 = φ1) (a2 : φ1 = -1 → φ2 = (if sp_dg t L P = true then -1 else P) ∧ (φ2 = -1 → q2 = P + sp_nl t L P)) (b : (sp_nx t L (sp_sk t L q2) = 59 ∧ φ3 = φ2 ∧ q3 = sp_sk t L q2 + 1) ∨ (sp_nx t L (sp_sk t L q2) ≠ 59 ∧ φ3 = if φ2 = -1 then sp_sk t L q2 else φ2)) (hs : 0 ≤ sp_sk t L q2) : φ3 = (if φ1 ≠ -1 then φ1 else if sp_nf t L P 0 99 ≠ -1 then sp_nf t L P 0 99 else if sp_nx t L (sp_sk t L (P + sp_nl t L P)) = 59 then -1 else sp_sk t L (P + sp_nl t L P)) ∧ (φ3 = -1 → φ1 = -1 ∧ q3 = sp_sk t L (P + sp_nl t L P) + 1) := by
  by_cases h1 : φ1 = -1
  · rw [if_neg (by omega)]
    obtain ⟨a3, a4⟩ := a2 h1
    have hnv := sp_nv_bd t L P
    by_cases hd : sp_dg t L P = true
    · rw [if_pos hd] at a3
      have a4 := a4 a3
      subst a4
      have hnl : sp_nl t L P ≠ 0 := by unfold sp_nl; rw [if_pos hd]; split <;> omega
      by_cases hd3 : sp_dg t L (P + sp_nl t L P) = true
      · obtain ⟨g1, g2⟩ := sp_dg_sk hd3
        have hlt := sp_dg_lt hd3
        have hn : sp_nf t L P 0 99 = P + sp_nl t L P := by unfold sp_nf; rw [if_neg (by omega), if_pos hd3]
        rw [g1] at b hs
        rw [hn, if_pos (by omega)]
        rcases b with ⟨b1, -, -⟩ | ⟨b1, b2⟩
        · exact absurd b1 g2
        · rw [if_pos a3] at b2; exact ⟨b2, fun h => by omega⟩
      · have hn : sp_nf t L P 0 99 = -1 := by unfold sp_nf; rw [if_neg (by omega), if_neg hd3]
        rw [hn, if_neg (by omega)]
        rcases b with ⟨b1, b2, b3⟩ | ⟨b1, b2⟩
        · rw [if_pos b1]; exact ⟨b2.trans a3, fun _ => ⟨h1, b3⟩⟩
        · rw [if_neg b1]; rw [if_pos a3] at b2; exact ⟨b2, fun h => by omega⟩
    · rw [if_neg hd] at a3
      have hn : sp_nf t L P 0 99 = P := by unfold sp_nf; rw [if_pos (Or.inl (by unfold sp_nl; rw [if_neg hd]))]
      rw [hn, if_pos (by omega)]
      rcases b with ⟨b1, b2, b3⟩ | ⟨b1, b2⟩
      · exact ⟨by omega, fun h => by omega⟩
      · rw [if_neg (by omega)] at b2; exact ⟨by omega, fun h => by omega⟩
  · rw [if_pos h1]
    have a1 := a1 h1
    rcases b with ⟨b1, b2, b3⟩ | ⟨b1, b2⟩
    · exact ⟨by omega, fun h => by omega⟩
    · rw [if_neg (by omega)] at b2; exact ⟨by omega, fun h => by omega⟩
theorem sp_idx_semi {t : Int → Int} {L q2 φ1 φ2 φ3 q3 c2 : Int} (a1 : φ1 ≠ -1 → φ2 = φ1) (a2 : φ1 = -1 → φ2 = c2) (b : (sp_nx t L (sp_sk t L q2) = 59 ∧ φ3 = φ2 ∧ q3 = sp_sk t L q2 + 1) ∨ (sp_nx t L (sp_sk t L q2) ≠ 59 ∧ φ3 = if φ2 = -1 then sp_sk t L q2 else φ2)) (hs : 0 ≤ sp_sk t L q2) : φ3 = (if φ1 ≠ -1 then φ1 else if c2 ≠ -1 then c2 else if sp_nx t L (sp_sk t L q2) = 59 then -1 else sp_sk t L q2) ∧ (φ3 = -1 → φ1 = -1 ∧ c2 = -1 ∧ q3 = sp_sk t L q2 + 1) := by
  by_cases h1 : φ1 = -1
  · rw [if_neg (by omega)]
    have a2 := a2 h1
    by_cases h2 : c2 = -1
    · rw [if_neg (by omega)]
      rcases b with ⟨b1, b2, b3⟩ | ⟨b1, b2⟩
      · rw [if_pos b1]; exact ⟨by omega, fun _ => ⟨h1, h2, b3⟩⟩
      · rw [if_neg b1]; rw [if_pos (by omega)] at b2; exact ⟨b2, fun h => by omega⟩
    · rw [if_pos h2]
      rcases b with ⟨b1, b2, b3⟩ | ⟨b1, b2⟩
      · exact ⟨by omega, fun h => by omega⟩
      · rw [if_neg (by omega)] at b2; exact ⟨by omega, fun h => by omega⟩
  · rw [if_pos h1]
    have a1 := a1 h1
    rcases b with ⟨b1, b2, b3⟩ | ⟨b1, b2⟩
    · exact ⟨by omega, fun h => by omega⟩
    · rw [if_neg (by omega)] at b2; exact ⟨by omega, fun h => by omega⟩
set_option maxRecDepth 100000 in
set_option maxHeartbeats 4000000 in
theorem c_X3_runSet {X : sv_X} {S : sv_S} {f : sv_F} {r : sv_R} {g : sv_G} {sc tx vs : Nat} (hsc : sv_K3 S r sc tx vs) (h10 : f sc 1 ≤ 80) (h5 : f sc 5 = -1) (hi : Int) (h3 : f sc 3 = hi + 1) (hhi : 7 ≤ hi ∧ hi ≤ 11) (p : Int) (hp : 0 ≤ p ∧ p ≤ f sc 1) (hat : f sc 4 = (sp_lt (f tx) (f sc 1) p)) {m : Int → Int} (hm : ∀ j, 0 ≤ j → j ≤ hi → f vs j = m (583 + j) ∧ 0 ≤ m (583 + j) ∧ m (583 + j) ≤ 99) (hcw : sp_cw (f tx) (f sc 1) p = 0) : sv_C X 4 MX3_runSet 0 0 [sv_r sc] S f r g (sv_qv (fun f' => sv_rp sc vs (f tx) (f sc 1) hi p m f f') S r g) := by
  refine sv_met (by decide) (by simp [lg_sl, sv_cv, va_rf, Value.category]) ?_
  refine sv_fr fun hin => ?_
  have hne : tx ≠ sc := hsc.2.2.2.2.1
  have hnv : vs ≠ sc := hsc.2.2.2.2.2.1
  have hnt : tx ≠ vs := hsc.2.2.2.2.2.2
  have hb0 := sp_lt_bd (t := f tx) hp.2
  have hb1 : (sp_cp1 (f tx) (f sc 1) p) ≤ f sc 1 ∧ 0 ≤ (sp_cp1 (f tx) (f sc 1) p) := by have := sp_sk_bd (t := f tx) hb0.2; unfold sp_cp1; omega
  have hn1 := sp_nl_bd (t := f tx) hb1.1
  have hb2 : (sp_cp2 (f tx) (f sc 1) p) ≤ f sc 1 ∧ 0 ≤ (sp_cp2 (f tx) (f sc 1) p) := by have := sp_sk_bd (t := f tx) hn1.2; unfold sp_cp2; omega
  have hn2 := sp_nl_bd (t := f tx) hb2.1
  have hnv1 := sp_nv_bd (f tx) (f sc 1) (sp_cp1 (f tx) (f sc 1) p)
  have hnv2 := sp_nv_bd (f tx) (f sc 1) (sp_cp2 (f tx) (f sc 1) p)
  refine sv_cast (f' := (sv_u (sv_u f sc 4 (sp_lt (f tx) (f sc 1) p)) sc 5 (-1))) ?_ rfl rfl rfl rfl rfl (sv_Fself hat h5)
  refine sv_aload_n (i := 0) dX3_runSet_0 rfl rfl ?_
  refine sv_iconst dX3_runSet_1 ?_
  refine sv_vi0 (As := [_]) clX3_63 dX3_runSet_2 ⟨_, rfl, rfl⟩ (by decide) rfl (Nat.le_of_ble_eq_true rfl) (by decide) (by decide) hsc.lt hsc.k (n_takeIndex hsc h10 (sp_lt (f tx) (f sc 1) p) (-1) (by omega) 0 (by decide)) (fun a1 f1 hf1 => ?_)
  obtain ⟨φ1, hf1, -, w1, ha1⟩ := hf1
  have w1 := w1 rfl
  rw [show f sc 3 - 1 = hi by omega] at w1
  replace w1 : φ1 = sp_cf1 (f tx) (f sc 1) hi p := w1
  replace hf1 : f1 = (sv_u (sv_u f sc 4 ((sp_cp1 (f tx) (f sc 1) p) + (sp_nl (f tx) (f sc 1) (sp_cp1 (f tx) (f sc 1) p)))) sc 5 φ1) := hf1
  replace ha1 : a1 = if φ1 = -1 then sp_ca (f tx) (f sc 1) p else 0 := ha1
  have ha1b : 0 ≤ a1 ∧ a1 ≤ 99 := by rw [ha1]; unfold sp_ca; split <;> omega
  subst hf1
  refine sv_istore_n (i := 1) dX3_runSet_5 rfl (by decide) rfl ?_
  refine sv_aload_n (i := 0) dX3_runSet_6 rfl rfl ?_
  refine sv_vi0 (As := []) clX3_67 dX3_runSet_7 ⟨_, rfl, rfl⟩ (by decide) rfl (Nat.le_of_ble_eq_true rfl) (by decide) (by decide) hsc.lt hsc.k (n_takeNumber hsc h10 ((sp_cp1 (f tx) (f sc 1) p) + (sp_nl (f tx) (f sc 1) (sp_cp1 (f tx) (f sc 1) p))) φ1 (by omega)) (fun a2 f2 hf2 => ?_)
  obtain ⟨ha2, q2, φ2, qa2, qb2, hf2, v1, v2⟩ := hf2
  replace ha2 : a2 = sp_nv (f tx) (f sc 1) (sp_cp2 (f tx) (f sc 1) p) := ha2
  replace v2 : φ1 = -1 → φ2 = (if sp_dg (f tx) (f sc 1) (sp_cp2 (f tx) (f sc 1) p) = true then -1 else (sp_cp2 (f tx) (f sc 1) p)) ∧ (φ2 = -1 → q2 = (sp_cp2 (f tx) (f sc 1) p) + sp_nl (f tx) (f sc 1) (sp_cp2 (f tx) (f sc 1) p)) := v2
  subst hf2
  refine sv_istore_n (i := 2) dX3_runSet_10 rfl (by decide) rfl ?_
  refine sv_aload_n (i := 0) dX3_runSet_11 rfl rfl ?_
  refine sv_vv0 (As := []) clX3_70 dX3_runSet_12 ⟨_, rfl, rfl⟩ (by decide) rfl (Nat.le_of_ble_eq_true rfl) (by decide) (by decide) hsc.lt hsc.k (n_takeSemicolon hsc h10 q2 φ2 (by omega)) (fun f3 hf3 => ?_)
  have hs3 := sp_sk_bd (t := f tx) (L := f sc 1) (p := q2) (by omega)
  have he3 : ∃ q9 φ9 : Int, f3 = (sv_u (sv_u f sc 4 q9) sc 5 φ9) ∧ (0 ≤ q9 ∧ q9 ≤ f sc 1) ∧ ((sp_nx (f tx) (f sc 1) (sp_sk (f tx) (f sc 1) q2) = 59 ∧ φ9 = φ2 ∧ q9 = sp_sk (f tx) (f sc 1) q2 + 1) ∨ (sp_nx (f tx) (f sc 1) (sp_sk (f tx) (f sc 1) q2) ≠ 59 ∧ φ9 = if φ2 = -1 then sp_sk (f tx) (f sc 1) q2 else φ2)) := by
    rcases hf3 with ⟨h1, h2⟩ | ⟨h1, h2⟩
    · have hlt := sp_nx_lt h1 (by decide)
      exact ⟨_, _, h2, by omega, Or.inl ⟨h1, rfl, rfl⟩⟩
    · exact ⟨_, _, h2, by omega, Or.inr ⟨h1, rfl⟩⟩
  obtain ⟨q9, φ9, hf9, hq9, hb9⟩ := he3
  subst hf9
  obtain ⟨hcf, hcp⟩ := sp_num_semi hb2.2 v1 v2 hb9 (by omega)
  replace hcf : φ9 = sp_cf (f tx) (f sc 1) hi p := by
    rw [hcf, w1]
    unfold sp_cf sp_cf2 sp_cf3 sp_cp4 sp_cp3
    simp only [hcw]
    simp
  refine sv_aload_n (i := 0) dX3_runSet_15 rfl rfl ?_
  refine sv_fr fun hin1 => ?_
  refine sv_getI (kz := 5) flX3_28 dX3_runSet_16 rfl rfl hsc.lt hsc.k ?_
  rw [sv_F5]
  refine sv_iconst dX3_runSet_19 ?_
  refine sv_icmp_ne (tgt := 30) dX3_runSet_20 (by decide) (sv_F5 (f := f) (sc := sc) (q := q9) (a := φ9) ▸ hin1 sc 5) (by first | omega | exact hin _ _ | decide | (simp [sv_u, sv_row]; omega) | (simp [sv_u, sv_row]; exact hin _ _) | exact hin1 _ _ | (simp [sv_u, sv_row]; exact hin1 _ _)) (fun h_20 => ?_) (fun h_20 => ?_)
  · refine sv_return dX3_runSet_30 rfl ?_
    first
    | (refine ⟨rfl, rfl, rfl, rfl, fun x x0 x1 => sv_Fx_ x0, fun j j4 j5 => sv_Fj j4 j5, by rw [sv_F4]; exact hq9, by rw [sv_F5]; exact hcf, fun h => absurd (hcf.trans h) (by assumption)⟩)
    | (refine ⟨rfl, rfl, rfl, rfl, fun x x0 x1 => by rw [sv_u_ne x1, sv_Fx_ x0], fun j j4 j5 => by rw [sv_u_ne (Ne.symm hnv), sv_Fj j4 j5], by rw [sv_u_ne (Ne.symm hnv), sv_F4]; exact hq9, by rw [sv_u_ne (Ne.symm hnv), sv_F5]; exact hcf, fun _ => ⟨?_, fun j j0 j1 => ?_⟩⟩
       · rw [sv_u_ne (Ne.symm hnv), sv_F4, z1]; unfold sp_cp4 sp_cp3; simp only [hcw]; simp
       · have hcb : sp_cb (f tx) (f sc 1) p = a2 := by unfold sp_cb; rw [hcw, ha2]; simp
         unfold sp_ex
         rw [hcw, if_pos rfl, ← ha1, hcb]
         rw [sv_u_at, sp_up_at, sv_Fx_ hnv]
         by_cases e : j = a1
         · rw [if_pos e, if_pos (by omega)]
         · rw [if_neg e, if_neg (by omega)]
           exact (hm j j0 j1).1)
  · have hφ9 : φ9 = -1 := by assumption
    have hz := hcf.symm.trans hφ9
    have hok := sp_cmd_ok (t := f tx) (L := f sc 1) (hi := hi) (p := p) hp.2 hp.1 hz
    rw [hcw] at hok
    obtain ⟨-, ok1, ok2, ok3, ok4, ok5, ok6⟩ := hok
    obtain ⟨z0, z1⟩ := hcp hφ9
    rw [if_pos z0] at ha1
    refine sv_aload_n (i := 0) dX3_runSet_23 rfl rfl ?_
    refine sv_getR (kz := 2) flX3_19 dX3_runSet_24 rfl rfl hsc.lt hsc.k hsc.r2 ?_
    refine sv_iload_n (i := 1) dX3_runSet_27 rfl rfl ?_
    refine sv_iload_n (i := 2) dX3_runSet_28 rfl rfl ?_
    refine sv_iast dX3_runSet_29 hsc.l2 hsc.s2 (by omega) (by rw [ha2]; unfold sv_in; omega) ?_
    refine sv_return dX3_runSet_30 rfl ?_
    first
    | (refine ⟨rfl, rfl, rfl, rfl, fun x x0 x1 => sv_Fx_ x0, fun j j4 j5 => sv_Fj j4 j5, by rw [sv_F4]; exact hq9, by rw [sv_F5]; exact hcf, fun h => absurd (hcf.trans h) (by assumption)⟩)
    | (refine ⟨rfl, rfl, rfl, rfl, fun x x0 x1 => by rw [sv_u_ne x1, sv_Fx_ x0], fun j j4 j5 => by rw [sv_u_ne (Ne.symm hnv), sv_Fj j4 j5], by rw [sv_u_ne (Ne.symm hnv), sv_F4]; exact hq9, by rw [sv_u_ne (Ne.symm hnv), sv_F5]; exact hcf, fun _ => ⟨?_, fun j j0 j1 => ?_⟩⟩
       · rw [sv_u_ne (Ne.symm hnv), sv_F4, z1]; unfold sp_cp4 sp_cp3; simp only [hcw]; simp
       · have hcb : sp_cb (f tx) (f sc 1) p = a2 := by unfold sp_cb; rw [hcw, ha2]; simp
         unfold sp_ex
         rw [hcw, if_pos rfl, ← ha1, hcb]
         rw [sv_u_at, sp_up_at, sv_Fx_ hnv]
         by_cases e : j = a1
         · rw [if_pos e, if_pos (by omega)]
         · rw [if_neg e, if_neg (by omega)]
           exact (hm j j0 j1).1)
