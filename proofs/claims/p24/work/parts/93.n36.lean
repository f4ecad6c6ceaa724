set_option maxRecDepth 100000 in
set_option maxHeartbeats 4000000 in
theorem c_X3_runCommand {X : sv_X} {S : sv_S} {f : sv_F} {r : sv_R} {g : sv_G} {sc tx vs : Nat} {w : Int} (hsc : sv_K3 S r sc tx vs) (h10 : f sc 1 ≤ 80) (h5 : f sc 5 = -1) (hi : Int) (h3 : f sc 3 = hi + 1) (hhi : 7 ≤ hi ∧ hi ≤ 11) (p : Int) (hp : 0 ≤ p ∧ p ≤ f sc 1) (hat : f sc 4 = (sp_lt (f tx) (f sc 1) p)) {m : Int → Int} (hm : ∀ j, 0 ≤ j → j ≤ hi → f vs j = m (583 + j) ∧ 0 ≤ m (583 + j) ∧ m (583 + j) ≤ 99) (hcw : sp_cw (f tx) (f sc 1) p = w) (hw4 : 0 ≤ w ∧ w ≤ 4) : sv_C X 5 MX3_runCommand 0 0 [sv_r sc, sv_i w] S f r g (sv_qv (fun f' => sv_rp sc vs (f tx) (f sc 1) hi p m f f') S r g) := by
  refine sv_met (by decide) (by simp [lg_sl, sv_cv, va_rf, Value.category]) ?_
  refine sv_fr fun hin => ?_
  have g0 : w = 0 → sv_T X (sv_rm 5 0 0) MX3_runCommand (sv_Zm X 0 0 (sv_qv (fun f' => sv_rp sc vs (f tx) (f sc 1) hi p m f f') S r g)) 0 0 36 [some (sv_r sc), some (sv_i w)] [] S (f) r g := by
    intro e
    refine sv_aload_n (i := 0) dX3_runCommand_36 rfl rfl ?_
    refine sv_vv0 (As := []) clX3_48 dX3_runCommand_37 ⟨_, rfl, rfl⟩ (by decide) rfl (Nat.le_of_ble_eq_true rfl) (by decide) (by decide) hsc.lt hsc.k (c_X3_runSet hsc h10 h5 hi h3 hhi p hp hat hm (hcw.trans e)) (fun f2 hf2 => ?_)
    refine sv_goto (tgt := 71) dX3_runCommand_40 (by decide) ?_
    refine sv_return dX3_runCommand_71 rfl ?_
    exact ⟨rfl, rfl, rfl, rfl, hf2⟩
  have g1 : w = 1 → sv_T X (sv_rm 5 0 0) MX3_runCommand (sv_Zm X 0 0 (sv_qv (fun f' => sv_rp sc vs (f tx) (f sc 1) hi p m f f') S r g)) 0 0 43 [some (sv_r sc), some (sv_i w)] [] S (f) r g := by
    intro e
    refine sv_aload_n (i := 0) dX3_runCommand_43 rfl rfl ?_
    refine sv_vv0 (As := []) clX3_51 dX3_runCommand_44 ⟨_, rfl, rfl⟩ (by decide) rfl (Nat.le_of_ble_eq_true rfl) (by decide) (by decide) hsc.lt hsc.k (c_X3_runAdd hsc h10 h5 hi h3 hhi p hp hat hm (hcw.trans e)) (fun f2 hf2 => ?_)
    refine sv_goto (tgt := 71) dX3_runCommand_47 (by decide) ?_
    refine sv_return dX3_runCommand_71 rfl ?_
    exact ⟨rfl, rfl, rfl, rfl, hf2⟩
  have g2 : w = 2 → sv_T X (sv_rm 5 0 0) MX3_runCommand (sv_Zm X 0 0 (sv_qv (fun f' => sv_rp sc vs (f tx) (f sc 1) hi p m f f') S r g)) 0 0 50 [some (sv_r sc), some (sv_i w)] [] S (f) r g := by
    intro e
    refine sv_aload_n (i := 0) dX3_runCommand_50 rfl rfl ?_
    refine sv_vv0 (As := []) clX3_54 dX3_runCommand_51 ⟨_, rfl, rfl⟩ (by decide) rfl (Nat.le_of_ble_eq_true rfl) (by decide) (by decide) hsc.lt hsc.k (c_X3_runSwap hsc h10 h5 hi h3 hhi p hp hat hm (hcw.trans e)) (fun f2 hf2 => ?_)
    refine sv_goto (tgt := 71) dX3_runCommand_54 (by decide) ?_
    refine sv_return dX3_runCommand_71 rfl ?_
    exact ⟨rfl, rfl, rfl, rfl, hf2⟩
  have g3 : w = 3 → sv_T X (sv_rm 5 0 0) MX3_runCommand (sv_Zm X 0 0 (sv_qv (fun f' => sv_rp sc vs (f tx) (f sc 1) hi p m f f') S r g)) 0 0 57 [some (sv_r sc), some (sv_i w)] [] S (f) r g := by
    intro e
    refine sv_aload_n (i := 0) dX3_runCommand_57 rfl rfl ?_
    refine sv_vv0 (As := []) clX3_57 dX3_runCommand_58 ⟨_, rfl, rfl⟩ (by decide) rfl (Nat.le_of_ble_eq_true rfl) (by decide) (by decide) hsc.lt hsc.k (c_X3_runFill hsc h10 h5 hi h3 hhi p hp hat hm (hcw.trans e)) (fun f2 hf2 => ?_)
    refine sv_goto (tgt := 71) dX3_runCommand_61 (by decide) ?_
    refine sv_return dX3_runCommand_71 rfl ?_
    exact ⟨rfl, rfl, rfl, rfl, hf2⟩
  have g4 : w = 4 → sv_T X (sv_rm 5 0 0) MX3_runCommand (sv_Zm X 0 0 (sv_qv (fun f' => sv_rp sc vs (f tx) (f sc 1) hi p m f f') S r g)) 0 0 64 [some (sv_r sc), some (sv_i w)] [] S (f) r g := by
    intro e
    refine sv_aload_n (i := 0) dX3_runCommand_64 rfl rfl ?_
    refine sv_vv0 (As := []) clX3_60 dX3_runCommand_65 ⟨_, rfl, rfl⟩ (by decide) rfl (Nat.le_of_ble_eq_true rfl) (by decide) (by decide) hsc.lt hsc.k (c_X3_runTurn hsc h10 h5 hi h3 hhi p hp hat hm (hcw.trans e)) (fun f2 hf2 => ?_)
    refine sv_goto (tgt := 71) dX3_runCommand_68 (by decide) ?_
    refine sv_return dX3_runCommand_71 rfl ?_
    exact ⟨rfl, rfl, rfl, rfl, hf2⟩
  refine sv_iload_n (i := 1) dX3_runCommand_0 rfl rfl ?_
  by_cases e0 : w = 0
  · exact sv_tsw (off := 35) (tgt := 36) dX3_runCommand_1 (by omega) (by omega) (by omega) (by rw [e0]; rfl) (by decide) (g0 e0)
  by_cases e1 : w = 1
  · exact sv_tsw (off := 42) (tgt := 43) dX3_runCommand_1 (by omega) (by omega) (by omega) (by rw [e1]; rfl) (by decide) (g1 e1)
  by_cases e2 : w = 2
  · exact sv_tsw (off := 49) (tgt := 50) dX3_runCommand_1 (by omega) (by omega) (by omega) (by rw [e2]; rfl) (by decide) (g2 e2)
  by_cases e3 : w = 3
  · exact sv_tsw (off := 56) (tgt := 57) dX3_runCommand_1 (by omega) (by omega) (by omega) (by rw [e3]; rfl) (by decide) (g3 e3)
  by_cases e4 : w = 4
  · exact sv_tsw (off := 63) (tgt := 64) dX3_runCommand_1 (by omega) (by omega) (by omega) (by rw [e4]; rfl) (by decide) (g4 e4)
  exact absurd hw4 (by omega)
set_option maxRecDepth 100000 in
set_option maxHeartbeats 4000000 in
theorem c_X3_runCommand0 {X : sv_X} {S : sv_S} {f : sv_F} {r : sv_R} {g : sv_G} {sc : Nat} : sv_C X 5 MX3_runCommand 0 0 [sv_r sc, sv_i (-1)] S f r g (sv_qv (fun f' => f' = f) S r g) := by
  refine sv_met (by decide) (by simp [lg_sl, sv_cv, va_rf, Value.category]) ?_
  refine sv_fr fun hin => ?_
  refine sv_iload_n (i := 1) dX3_runCommand_0 rfl rfl ?_
  exact sv_tswd (tgt := 71) dX3_runCommand_1 (by decide) (Or.inl (by decide)) (by decide) (sv_return dX3_runCommand_71 rfl ⟨rfl, rfl, rfl, rfl, rfl⟩)
theorem sp_nf_bd {t : Int → Int} {L p lo hi : Int} (h0 : 0 ≤ p) (h : p ≤ L) : -1 ≤ sp_nf t L p lo hi ∧ sp_nf t L p lo hi ≤ L := by
  have := sp_nl_bd (t := t) h
  unfold sp_nf
  split
  · omega
  · split <;> omega
theorem sp_cf_bd {t : Int → Int} {L hi p : Int} (h0 : 0 ≤ p) (h : p ≤ L) : -1 ≤ sp_cf t L hi p ∧ sp_cf t L hi p ≤ L := by
  have hb0 := sp_lt_bd (t := t) h
  have hb1 : sp_cp1 t L p ≤ L ∧ 0 ≤ sp_cp1 t L p := by have := sp_sk_bd (t := t) hb0.2; unfold sp_cp1; omega
  have hn1 := sp_nl_bd (t := t) hb1.1
  have hb2 : sp_cp2 t L p ≤ L ∧ 0 ≤ sp_cp2 t L p := by have := sp_sk_bd (t := t) hn1.2; unfold sp_cp2; omega
  have hmi : 0 ≤ sp_mi t L (sp_cp2 t L p) ∧ sp_cp2 t L p + sp_mi t L (sp_cp2 t L p) ≤ L := by
    unfold sp_mi
    split
    · rename_i h45
      have := sp_nx_lt h45 (by decide); omega
    · omega
  have hn2 := sp_nl_bd (t := t) hb2.1
  have hn2' := sp_nl_bd (t := t) hmi.2
  have hal : 0 ≤ sp_al t L (sp_cp2 t L p) ∧ sp_cp2 t L p + sp_al t L (sp_cp2 t L p) ≤ L := by unfold sp_al; omega
  have hb3 : sp_cp3 t L p ≤ L ∧ 0 ≤ sp_cp3 t L p := by
    unfold sp_cp3
    split
    · have := sp_sk_bd (t := t) hal.2; omega
    · have := sp_sk_bd (t := t) hn2.2; omega
  have hn3 := sp_nl_bd (t := t) hb3.1
  have hb4 : sp_cp4 t L p ≤ L ∧ 0 ≤ sp_cp4 t L p := by
    unfold sp_cp4
    split
    · have := sp_sk_bd (t := t) hn3.2; omega
    · exact hb3
  have h1 : -1 ≤ sp_cf1 t L hi p ∧ sp_cf1 t L hi p ≤ L := sp_nf_bd hb1.2 hb1.1
  have h2 : -1 ≤ sp_cf2 t L hi p ∧ sp_cf2 t L hi p ≤ L := by
    unfold sp_cf2
    split
    · exact sp_nf_bd hb2.2 hb2.1
    · split
      · exact sp_nf_bd (by omega) hmi.2
      · exact sp_nf_bd hb2.2 hb2.1
  have h3 : -1 ≤ sp_cf3 t L p ∧ sp_cf3 t L p ≤ L := by
    unfold sp_cf3
    split
    · exact sp_nf_bd hb3.2 hb3.1
    · omega
  unfold sp_cf
  split
  · omega
  · split
    · exact h1
    · split
      · exact h2
      · split
        · exact h3
        · split <;> omega
set_option maxRecDepth 100000 in
set_option maxHeartbeats 4000000 in
theorem c_X3_run {X : sv_X} {S : sv_S} {f : sv_F} {r : sv_R} {g : sv_G} {sc tx vs gm : Nat} (hsc : sv_K3 S r sc tx vs) (hgm : gm < S.1 ∧ S.2 gm = (6, 12)) (hgs : gm ≠ sc) (hgv : gm ≠ vs) (h10 : 0 ≤ f sc 1 ∧ f sc 1 ≤ 80) (hi : Int) (hhi : 7 ≤ hi ∧ hi ≤ 11) {m : Int → Int} (hm : ∀ j, 0 ≤ j → j ≤ hi → f gm j = m (583 + j) ∧ 0 ≤ m (583 + j) ∧ m (583 + j) ≤ 99) : sv_C X 7 MX3_run 0 0 [sv_r sc, sv_r gm, sv_i (hi + 1)] S f r g (sv_qi (fun a f' => ∃ (c : Nat) (φ : Int), sp_sc (f tx) (f sc 1) hi c φ ∧ (∀ x, x ≠ sc → x ≠ vs → f' x = f x) ∧ (∀ j, j ≠ 3 → j ≠ 4 → j ≠ 5 → f' sc j = f sc j) ∧ ((φ ≠ -1 ∧ 0 ≤ φ ∧ a = -2000 - φ) ∨ (φ = -1 ∧ a = c ∧ ∀ j, 0 ≤ j → j ≤ hi → f' vs j = sp_run (f tx) (f sc 1) m c (583 + j)))) S r g) := by
  refine sv_met (by decide) (by simp [lg_sl, sv_cv, va_rf, Value.category]) ?_
  refine sv_fr fun hin => ?_
  have hne : tx ≠ sc := hsc.2.2.2.2.1
  have hnv : vs ≠ sc := hsc.2.2.2.2.2.1
  have hnt : tx ≠ vs := hsc.2.2.2.2.2.2
  have gF : ∀ (f1 : sv_F) (c : Nat) (φ n1 n2 : Int), sv_in n2 → sp_sc (f tx) (f sc 1) hi c φ → f1 sc 5 = φ → φ ≠ -1 → 0 ≤ φ → (∀ x, x ≠ sc → x ≠ vs → f1 x = f x) → (∀ j, j ≠ 3 → j ≠ 4 → j ≠ 5 → f1 sc j = f sc j) → sv_T X (sv_rm 7 0 0) MX3_run (sv_Zm X 0 0 (sv_qi (fun a f' => ∃ (c : Nat) (φ : Int), sp_sc (f tx) (f sc 1) hi c φ ∧ (∀ x, x ≠ sc → x ≠ vs → f' x = f x) ∧ (∀ j, j ≠ 3 → j ≠ 4 → j ≠ 5 → f' sc j = f sc j) ∧ ((φ ≠ -1 ∧ 0 ≤ φ ∧ a = -2000 - φ) ∨ (φ = -1 ∧ a = c ∧ ∀ j, 0 ≤ j → j ≤ hi → f' vs j = sp_run (f tx) (f sc 1) m c (583 + j)))) S r g)) 0 0 36 [some (sv_r sc), some (sv_r gm), some (sv_i (hi + 1)), some (sv_i n1), some (sv_i n2)] [] S (f1) r g := by
    intro f1 c φ n1 n2 hn2 k1 k2 k3 k6 k4 k5
    refine sv_fr fun hin1 => ?_
    refine sv_iload dX3_run_36 rfl ?_
    refine sv_bipush dX3_run_38 (by decide) ?_
    refine sv_icmp_ge (tgt := 83) dX3_run_40 (by decide) hn2 (by first | omega | exact hin _ _ | decide | (simp [sv_u, sv_row]; omega) | (simp [sv_u, sv_row]; exact hin _ _) | exact hin1 _ _ | (simp [sv_u, sv_row]; exact hin1 _ _)) (fun h_40 => ?_) (fun h_40 => ?_)
    · refine sv_aload_n (i := 0) dX3_run_83 rfl rfl ?_
      refine sv_getI (kz := 5) flX3_28 dX3_run_84 rfl rfl hsc.lt hsc.k ?_
      refine sv_iconst dX3_run_87 ?_
      rw [k2]
      refine sv_icmp_ne (tgt := 95) dX3_run_88 (by decide) (k2 ▸ hin1 sc 5) (by first | omega | exact hin _ _ | decide | (simp [sv_u, sv_row]; omega) | (simp [sv_u, sv_row]; exact hin _ _) | exact hin1 _ _ | (simp [sv_u, sv_row]; exact hin1 _ _)) (fun h_88 => ?_) (fun h_88 => ?_)
      · refine sv_sipush dX3_run_95 (by decide) ?_
        refine sv_aload_n (i := 0) dX3_run_98 rfl rfl ?_
        refine sv_getI (kz := 5) flX3_28 dX3_run_99 rfl rfl hsc.lt hsc.k ?_
        rw [k2]
        refine sv_isub dX3_run_102 ?_
        refine sv_ireturn dX3_run_103 rfl ?_
        first | exact absurd (by assumption) k3 | exact ⟨_, rfl, rfl, rfl, rfl, c, φ, k1, k4, k5, Or.inl ⟨k3, k6, rfl⟩⟩
      · refine sv_iload_n (i := 3) dX3_run_91 rfl rfl ?_
        refine sv_goto (tgt := 103) dX3_run_92 (by decide) ?_
        refine sv_ireturn dX3_run_103 rfl ?_
        first | exact absurd (by assumption) k3 | exact ⟨_, rfl, rfl, rfl, rfl, c, φ, k1, k4, k5, Or.inl ⟨k3, k6, rfl⟩⟩
    · refine sv_aload_n (i := 0) dX3_run_43 rfl rfl ?_
      refine sv_getI (kz := 4) flX3_25 dX3_run_44 rfl rfl hsc.lt hsc.k ?_
      refine sv_aload_n (i := 0) dX3_run_47 rfl rfl ?_
      refine sv_getI (kz := 1) flX3_15 dX3_run_48 rfl rfl hsc.lt hsc.k ?_
      refine sv_icmp_ge (tgt := 83) dX3_run_51 (by decide) (hin1 _ _) (hin1 _ _) (fun h_51 => ?_) (fun h_51 => ?_)
      · refine sv_aload_n (i := 0) dX3_run_83 rfl rfl ?_
        refine sv_getI (kz := 5) flX3_28 dX3_run_84 rfl rfl hsc.lt hsc.k ?_
        refine sv_iconst dX3_run_87 ?_
        rw [k2]
        refine sv_icmp_ne (tgt := 95) dX3_run_88 (by decide) (k2 ▸ hin1 sc 5) (by first | omega | exact hin _ _ | decide | (simp [sv_u, sv_row]; omega) | (simp [sv_u, sv_row]; exact hin _ _) | exact hin1 _ _ | (simp [sv_u, sv_row]; exact hin1 _ _)) (fun h_88 => ?_) (fun h_88 => ?_)
        · refine sv_sipush dX3_run_95 (by decide) ?_
          refine sv_aload_n (i := 0) dX3_run_98 rfl rfl ?_
          refine sv_getI (kz := 5) flX3_28 dX3_run_99 rfl rfl hsc.lt hsc.k ?_
          rw [k2]
          refine sv_isub dX3_run_102 ?_
          refine sv_ireturn dX3_run_103 rfl ?_
          first | exact absurd (by assumption) k3 | exact ⟨_, rfl, rfl, rfl, rfl, c, φ, k1, k4, k5, Or.inl ⟨k3, k6, rfl⟩⟩
        · refine sv_iload_n (i := 3) dX3_run_91 rfl rfl ?_
          refine sv_goto (tgt := 103) dX3_run_92 (by decide) ?_
          refine sv_ireturn dX3_run_103 rfl ?_
          first | exact absurd (by assumption) k3 | exact ⟨_, rfl, rfl, rfl, rfl, c, φ, k1, k4, k5, Or.inl ⟨k3, k6, rfl⟩⟩
      · refine sv_aload_n (i := 0) dX3_run_54 rfl rfl ?_
        refine sv_getI (kz := 5) flX3_28 dX3_run_55 rfl rfl hsc.lt hsc.k ?_
        refine sv_iconst dX3_run_58 ?_
        rw [k2]
        refine sv_icmp_ne (tgt := 83) dX3_run_59 (by decide) (k2 ▸ hin1 sc 5) (by first | omega | exact hin _ _ | decide | (simp [sv_u, sv_row]; omega) | (simp [sv_u, sv_row]; exact hin _ _) | exact hin1 _ _ | (simp [sv_u, sv_row]; exact hin1 _ _)) (fun h_59 => ?_) (fun h_59 => ?_)
        · refine sv_aload_n (i := 0) dX3_run_83 rfl rfl ?_
          refine sv_getI (kz := 5) flX3_28 dX3_run_84 rfl rfl hsc.lt hsc.k ?_
          refine sv_iconst dX3_run_87 ?_
          rw [k2]
          refine sv_icmp_ne (tgt := 95) dX3_run_88 (by decide) (k2 ▸ hin1 sc 5) (by first | omega | exact hin _ _ | decide | (simp [sv_u, sv_row]; omega) | (simp [sv_u, sv_row]; exact hin _ _) | exact hin1 _ _ | (simp [sv_u, sv_row]; exact hin1 _ _)) (fun h_88 => ?_) (fun h_88 => ?_)
          · refine sv_sipush dX3_run_95 (by decide) ?_
            refine sv_aload_n (i := 0) dX3_run_98 rfl rfl ?_
            refine sv_getI (kz := 5) flX3_28 dX3_run_99 rfl rfl hsc.lt hsc.k ?_
            rw [k2]
            refine sv_isub dX3_run_102 ?_
            refine sv_ireturn dX3_run_103 rfl ?_
            first | exact absurd (by assumption) k3 | exact ⟨_, rfl, rfl, rfl, rfl, c, φ, k1, k4, k5, Or.inl ⟨k3, k6, rfl⟩⟩
          · refine sv_iload_n (i := 3) dX3_run_91 rfl rfl ?_
            refine sv_goto (tgt := 103) dX3_run_92 (by decide) ?_
            refine sv_ireturn dX3_run_103 rfl ?_
            first | exact absurd (by assumption) k3 | exact ⟨_, rfl, rfl, rfl, rfl, c, φ, k1, k4, k5, Or.inl ⟨k3, k6, rfl⟩⟩
        · exact absurd h_59 k3
  have lp : ∀ (kk : Nat) (c : Nat) (f1 : sv_F), 21 - (c : Int) < (kk : Int) → (∀ i, i < c → sp_ps (f tx) (f sc 1) i < f sc 1 ∧ sp_cf (f tx) (f sc 1) hi (sp_ps (f tx) (f sc 1) i) = -1) → (∀ x, x ≠ sc → x ≠ vs → f1 x = f x) → (∀ j, j ≠ 3 → j ≠ 4 → j ≠ 5 → f1 sc j = f sc j) → (f1 sc 3 = hi + 1) → (f1 sc 4 = (sp_ps (f tx) (f sc 1) c)) → (f1 sc 5 = -1) → (∀ j, 0 ≤ j → j ≤ hi → f1 vs j = sp_run (f tx) (f sc 1) m c (583 + j)) → sv_T X (sv_rm 7 0 0) MX3_run (sv_Zm X 0 0 (sv_qi (fun a f' => ∃ (c : Nat) (φ : Int), sp_sc (f tx) (f sc 1) hi c φ ∧ (∀ x, x ≠ sc → x ≠ vs → f' x = f x) ∧ (∀ j, j ≠ 3 → j ≠ 4 → j ≠ 5 → f' sc j = f sc j) ∧ ((φ ≠ -1 ∧ 0 ≤ φ ∧ a = -2000 - φ) ∨ (φ = -1 ∧ a = c ∧ ∀ j, 0 ≤ j → j ≤ hi → f' vs j = sp_run (f tx) (f sc 1) m c (583 + j)))) S r g)) 0 0 36 [some (sv_r sc), some (sv_r gm), some (sv_i (hi + 1)), some (sv_i (c : Nat)), some (sv_i (c : Nat))] [] S (f1) r g := by
    intro kk
    induction kk with
    | zero =>
      intro c f1 hkk h2 h0 hj h3 h4 h5 hval
      exact absurd hkk (by have hps := sp_ps_bd (t := f tx) (L := f sc 1) (hi := hi) h10.1 h2; omega)
    | succ kk ih =>
      intro c f1 hkk h2 h0 hj h3 h4 h5 hval
      have hps := sp_ps_bd (t := f tx) (L := f sc 1) (hi := hi) h10.1 h2
      have e1 : f1 sc 1 = f sc 1 := hj 1 (by decide) (by decide) (by decide)
      have et : f1 tx = f tx := h0 tx hne hnt
      have hrk := (sp_run_ok (t := f tx) (L := f sc 1) (hi := hi) (m := m) h10.1 hhi.2 (fun j j0 j1 => (hm j j0 j1).2) h2).1
      refine sv_iload dX3_run_36 rfl ?_
      refine sv_bipush dX3_run_38 (by decide) ?_
      refine sv_icmp_ge (tgt := 83) dX3_run_40 (by decide) (by unfold sv_in; omega) (by first | omega | exact hin _ _ | decide | (simp [sv_u, sv_row]; omega) | (simp [sv_u, sv_row]; exact hin _ _) | exact hin1 _ _ | (simp [sv_u, sv_row]; exact hin1 _ _)) (fun h_40 => ?_) (fun h_40 => ?_)
      · refine sv_aload_n (i := 0) dX3_run_83 rfl rfl ?_
        refine sv_getI (kz := 5) flX3_28 dX3_run_84 rfl rfl hsc.lt hsc.k ?_
        refine sv_iconst dX3_run_87 ?_
        rw [h5]
        refine sv_icmp_ne (tgt := 95) dX3_run_88 (by decide) (by decide) (by first | omega | exact hin _ _ | decide | (simp [sv_u, sv_row]; omega) | (simp [sv_u, sv_row]; exact hin _ _) | exact hin1 _ _ | (simp [sv_u, sv_row]; exact hin1 _ _)) (fun h_88 => ?_) (fun h_88 => ?_)
        · refine sv_sipush dX3_run_95 (by decide) ?_
          refine sv_aload_n (i := 0) dX3_run_98 rfl rfl ?_
          refine sv_getI (kz := 5) flX3_28 dX3_run_99 rfl rfl hsc.lt hsc.k ?_
          refine sv_isub dX3_run_102 ?_
          refine sv_ireturn dX3_run_103 rfl ?_
          first | exact ⟨_, rfl, rfl, rfl, rfl, c, -1, ⟨h2, Or.inl ⟨rfl, by omega⟩⟩, h0, hj, Or.inr ⟨rfl, rfl, hval⟩⟩ | (exfalso; omega) | exact absurd rfl (by assumption)
        · refine sv_iload_n (i := 3) dX3_run_91 rfl rfl ?_
          refine sv_goto (tgt := 103) dX3_run_92 (by decide) ?_
          refine sv_ireturn dX3_run_103 rfl ?_
          first | exact ⟨_, rfl, rfl, rfl, rfl, c, -1, ⟨h2, Or.inl ⟨rfl, by omega⟩⟩, h0, hj, Or.inr ⟨rfl, rfl, hval⟩⟩ | (exfalso; omega) | exact absurd rfl (by assumption)
      · refine sv_aload_n (i := 0) dX3_run_43 rfl rfl ?_
        refine sv_getI (kz := 4) flX3_25 dX3_run_44 rfl rfl hsc.lt hsc.k ?_
        refine sv_aload_n (i := 0) dX3_run_47 rfl rfl ?_
        refine sv_getI (kz := 1) flX3_15 dX3_run_48 rfl rfl hsc.lt hsc.k ?_
        rw [h4, e1]
        refine sv_icmp_ge (tgt := 83) dX3_run_51 (by decide) (by unfold sv_in; omega) (by unfold sv_in; omega) (fun h_51 => ?_) (fun h_51 => ?_)
        · refine sv_aload_n (i := 0) dX3_run_83 rfl rfl ?_
          refine sv_getI (kz := 5) flX3_28 dX3_run_84 rfl rfl hsc.lt hsc.k ?_
          refine sv_iconst dX3_run_87 ?_
          rw [h5]
          refine sv_icmp_ne (tgt := 95) dX3_run_88 (by decide) (by decide) (by first | omega | exact hin _ _ | decide | (simp [sv_u, sv_row]; omega) | (simp [sv_u, sv_row]; exact hin _ _) | exact hin1 _ _ | (simp [sv_u, sv_row]; exact hin1 _ _)) (fun h_88 => ?_) (fun h_88 => ?_)
          · refine sv_sipush dX3_run_95 (by decide) ?_
            refine sv_aload_n (i := 0) dX3_run_98 rfl rfl ?_
            refine sv_getI (kz := 5) flX3_28 dX3_run_99 rfl rfl hsc.lt hsc.k ?_
            refine sv_isub dX3_run_102 ?_
            refine sv_ireturn dX3_run_103 rfl ?_
            first | exact ⟨_, rfl, rfl, rfl, rfl, c, -1, ⟨h2, Or.inl ⟨rfl, by omega⟩⟩, h0, hj, Or.inr ⟨rfl, rfl, hval⟩⟩ | (exfalso; omega) | exact absurd rfl (by assumption)
          · refine sv_iload_n (i := 3) dX3_run_91 rfl rfl ?_
            refine sv_goto (tgt := 103) dX3_run_92 (by decide) ?_
            refine sv_ireturn dX3_run_103 rfl ?_
            first | exact ⟨_, rfl, rfl, rfl, rfl, c, -1, ⟨h2, Or.inl ⟨rfl, by omega⟩⟩, h0, hj, Or.inr ⟨rfl, rfl, hval⟩⟩ | (exfalso; omega) | exact absurd rfl (by assumption)
        · refine sv_aload_n (i := 0) dX3_run_54 rfl rfl ?_
          refine sv_getI (kz := 5) flX3_28 dX3_run_55 rfl rfl hsc.lt hsc.k ?_
          refine sv_iconst dX3_run_58 ?_
          rw [h5]
          refine sv_icmp_ne (tgt := 83) dX3_run_59 (by decide) (by decide) (by first | omega | exact hin _ _ | decide | (simp [sv_u, sv_row]; omega) | (simp [sv_u, sv_row]; exact hin _ _) | exact hin1 _ _ | (simp [sv_u, sv_row]; exact hin1 _ _)) (fun h_59 => ?_) (fun h_59 => ?_)
          · refine sv_aload_n (i := 0) dX3_run_83 rfl rfl ?_
            refine sv_getI (kz := 5) flX3_28 dX3_run_84 rfl rfl hsc.lt hsc.k ?_
            refine sv_iconst dX3_run_87 ?_
            rw [h5]
            refine sv_icmp_ne (tgt := 95) dX3_run_88 (by decide) (by decide) (by first | omega | exact hin _ _ | decide | (simp [sv_u, sv_row]; omega) | (simp [sv_u, sv_row]; exact hin _ _) | exact hin1 _ _ | (simp [sv_u, sv_row]; exact hin1 _ _)) (fun h_88 => ?_) (fun h_88 => ?_)
            · refine sv_sipush dX3_run_95 (by decide) ?_
              refine sv_aload_n (i := 0) dX3_run_98 rfl rfl ?_
              refine sv_getI (kz := 5) flX3_28 dX3_run_99 rfl rfl hsc.lt hsc.k ?_
              refine sv_isub dX3_run_102 ?_
              refine sv_ireturn dX3_run_103 rfl ?_
              first | exact ⟨_, rfl, rfl, rfl, rfl, c, -1, ⟨h2, Or.inl ⟨rfl, by omega⟩⟩, h0, hj, Or.inr ⟨rfl, rfl, hval⟩⟩ | (exfalso; omega) | exact absurd rfl (by assumption)
            · refine sv_iload_n (i := 3) dX3_run_91 rfl rfl ?_
              refine sv_goto (tgt := 103) dX3_run_92 (by decide) ?_
              refine sv_ireturn dX3_run_103 rfl ?_
              first | exact ⟨_, rfl, rfl, rfl, rfl, c, -1, ⟨h2, Or.inl ⟨rfl, by omega⟩⟩, h0, hj, Or.inr ⟨rfl, rfl, hval⟩⟩ | (exfalso; omega) | exact absurd rfl (by assumption)
          · refine sv_aload_n (i := 0) dX3_run_62 rfl rfl ?_
            refine sv_aload_n (i := 0) dX3_run_63 rfl rfl ?_
            refine sv_vi0 (As := []) clX3_40 dX3_run_64 ⟨_, rfl, rfl⟩ (by decide) rfl (Nat.le_of_ble_eq_true rfl) (by decide) (by decide) hsc.lt hsc.k (c_X3_takeWord (f := f1) hsc (by rw [e1]; omega) (by rw [e1]; omega)) (fun a f2 hf2 => ?_)
            rw [e1, et, h4, h5, if_pos rfl] at hf2
            obtain ⟨ha, hf2⟩ := hf2
            replace ha : a = (sp_cw (f tx) (f sc 1) (sp_ps (f tx) (f sc 1) c)) := ha
            have hwb : -1 ≤ (sp_cw (f tx) (f sc 1) (sp_ps (f tx) (f sc 1) c)) ∧ (sp_cw (f tx) (f sc 1) (sp_ps (f tx) (f sc 1) c)) ≤ 4 := by unfold sp_cw sp_wo; repeat' split <;> omega
            have hltb := sp_lt_bd (t := f tx) (L := f sc 1) (p := (sp_ps (f tx) (f sc 1) c)) (by omega)
            by_cases hcw : a = -1
            · rw [if_pos (show sp_wo (f tx) (sp_ps (f tx) (f sc 1) c) (sp_lt (f tx) (f sc 1) (sp_ps (f tx) (f sc 1) c)) = -1 from ha.symm.trans hcw)] at hf2
              rw [hcw]
              refine sv_vv0 (As := [_]) clX3_44 dX3_run_67 ⟨_, rfl, rfl⟩ (by decide) rfl (Nat.le_of_ble_eq_true rfl) (by decide) (by decide) hsc.lt hsc.k c_X3_runCommand0 (fun f3 hf3 => ?_)
              subst hf3
              refine sv_iinc dX3_run_70 rfl (by decide) rfl ?_
              refine sv_aload_n (i := 0) dX3_run_73 rfl rfl ?_
              refine sv_vv0 (As := []) clX3_37 dX3_run_74 ⟨_, rfl, rfl⟩ (by decide) rfl (Nat.le_of_ble_eq_true rfl) (by decide) (by decide) hsc.lt hsc.k (c_X3_skipBlanks hsc (by rw [hf2]; simp [sv_u]; rw [e1]; omega) (by rw [hf2]; simp [sv_u]; rw [e1]; omega)) (fun f4 hf4 => ?_)
              refine sv_iinc dX3_run_77 rfl (by decide) rfl ?_
              refine sv_goto (tgt := 36) dX3_run_80 (by decide) ?_
              have hcf : sp_cf (f tx) (f sc 1) hi (sp_ps (f tx) (f sc 1) c) = (sp_ps (f tx) (f sc 1) c) := by unfold sp_cf; rw [if_pos (ha.symm.trans hcw)]
              refine gF f4 c (sp_ps (f tx) (f sc 1) c) _ _ (by unfold sv_in; omega) ⟨h2, Or.inr ⟨by omega, by omega, hcf⟩⟩ ?_ (by omega) (by omega) (fun x x0 x1 => ?_) (fun j j3 j4 j5 => ?_)
              · rw [hf4, hf2]; simp [sv_u, h4]
              · rw [hf4, hf2, sv_u_ne x0, sv_u_ne x0, sv_u_ne x0]; exact h0 x x0 x1
              · rw [hf4, hf2]; simp [sv_u, j4, j5]; exact hj j j3 j4 j5
            · rw [if_neg (show ¬ sp_wo (f tx) (sp_ps (f tx) (f sc 1) c) (sp_lt (f tx) (f sc 1) (sp_ps (f tx) (f sc 1) c)) = -1 from fun h => hcw (ha.trans h))] at hf2
              have g1 : f2 sc 1 = f sc 1 := by rw [hf2]; simp [sv_u, e1]
              have g4 : f2 sc 4 = (sp_lt (f tx) (f sc 1) (sp_ps (f tx) (f sc 1) c)) := by rw [hf2]; simp [sv_u]
              have g5 : f2 sc 5 = f1 sc 5 := by rw [hf2]; simp [sv_u]
              have gt : f2 tx = f tx := by rw [hf2, sv_u_ne hne]; exact et
              have gv : f2 vs = f1 vs := by rw [hf2, sv_u_ne hnv]
              refine sv_vv0 (As := [_]) clX3_44 dX3_run_67 ⟨_, rfl, rfl⟩ (by decide) rfl (Nat.le_of_ble_eq_true rfl) (by decide) (by decide) hsc.lt hsc.k (c_X3_runCommand (f := f2) hsc (by omega) (by rw [g5]; exact h5) hi (by rw [hf2]; simp [sv_u]; exact h3) hhi (sp_ps (f tx) (f sc 1) c) (by rw [g1]; omega) (by rw [g4, gt, g1]) (m := sp_run (f tx) (f sc 1) m c) (fun j j0 j1 => by rw [gv]; exact ⟨hval j j0 j1, hrk j j0 j1⟩) (by rw [gt, g1]; exact ha.symm) (by omega)) (fun f3 hf3 => ?_)
              rw [gt, g1] at hf3
              obtain ⟨r1, r2, r3, r4, r5⟩ := hf3
              have c1 : f3 sc 1 = f sc 1 := by rw [r2 1 (by decide) (by decide)]; exact g1
              have ct : f3 tx = f tx := by rw [r1 tx hne hnt]; exact gt
              refine sv_iinc dX3_run_70 rfl (by decide) rfl ?_
              refine sv_aload_n (i := 0) dX3_run_73 rfl rfl ?_
              refine sv_vv0 (As := []) clX3_37 dX3_run_74 ⟨_, rfl, rfl⟩ (by decide) rfl (Nat.le_of_ble_eq_true rfl) (by decide) (by decide) hsc.lt hsc.k (c_X3_skipBlanks hsc (by rw [c1]; exact r3) (by rw [c1]; omega)) (fun f4 hf4 => ?_)
              refine sv_iinc dX3_run_77 rfl (by decide) rfl ?_
              refine sv_goto (tgt := 36) dX3_run_80 (by decide) ?_
              have hk0 : ∀ x, x ≠ sc → x ≠ vs → f4 x = f x := fun x x0 x1 => by rw [hf4, sv_u_ne x0, r1 x x0 x1, hf2, sv_u_ne x0]; exact h0 x x0 x1
              have hkj : ∀ j, j ≠ 3 → j ≠ 4 → j ≠ 5 → f4 sc j = f sc j := fun j j3 j4 j5 => by rw [hf4]; simp only [sv_u_at, if_neg j4]; rw [r2 j j4 j5, hf2]; simp only [sv_u_at, if_neg j4]; exact hj j j3 j4 j5
              have hcb := sp_cf_bd (t := f tx) (L := f sc 1) (hi := hi) (p := (sp_ps (f tx) (f sc 1) c)) (by omega) (by omega)
              by_cases hz : sp_cf (f tx) (f sc 1) hi (sp_ps (f tx) (f sc 1) c) = -1
              · obtain ⟨z1, z2⟩ := r5 hz
                have hst : ∀ i, i < c + 1 → sp_ps (f tx) (f sc 1) i < f sc 1 ∧ sp_cf (f tx) (f sc 1) hi (sp_ps (f tx) (f sc 1) i) = -1 := fun i hi2 => by
                  by_cases e : i = c
                  · subst e; exact ⟨by omega, hz⟩
                  · exact h2 i (by omega)
                refine sv_cast (ih (c + 1) f4 (by omega) hst hk0 hkj ?_ ?_ ?_ ?_) rfl rfl rfl rfl rfl rfl
                · rw [hf4]; simp only [sv_u_at]; rw [if_neg (by decide), r2 3 (by decide) (by decide), hf2]; simp only [sv_u_at]; rw [if_neg (by decide)]; exact h3
                · rw [hf4]; simp only [sv_u_at, if_pos]; rw [ct, c1, z1]; rfl
                · rw [hf4]; simp only [sv_u_at]; rw [if_neg (by decide), r4, hz]
                · intro j j0 j1; rw [hf4, sv_u_ne hnv]; exact z2 j j0 j1
              · exact gF f4 c _ _ _ (by unfold sv_in; omega) ⟨h2, Or.inr ⟨hz, by omega, rfl⟩⟩ (by rw [hf4]; simp only [sv_u_at]; rw [if_neg (by decide), r4]) hz (by omega) hk0 hkj
  refine sv_aload_n (i := 1) dX3_run_0 rfl rfl ?_
  refine sv_iconst dX3_run_1 ?_
  refine sv_aload_n (i := 0) dX3_run_2 rfl rfl ?_
  refine sv_getR (kz := 2) flX3_19 dX3_run_3 rfl rfl hsc.lt hsc.k hsc.r2 ?_
  refine sv_iconst dX3_run_6 ?_
  refine sv_bipush dX3_run_7 (by decide) ?_
  refine sv_copy (List.mem_of_getElem? (i := 451) (by decide +kernel)) sv_copyw hgm.1 hgm.2 hsc.l2 hsc.s2 (by decide) (Nat.le_of_ble_eq_true rfl) (by decide) dX3_run_9 ?_
  refine sv_aload_n (i := 0) dX3_run_12 rfl rfl ?_
  refine sv_iload_n (i := 2) dX3_run_13 rfl rfl ?_
  refine sv_putI (kz := 3) flX3_22 dX3_run_14 (Or.inl rfl) rfl rfl hsc.lt hsc.k (by unfold sv_in; omega) ?_
  refine sv_aload_n (i := 0) dX3_run_17 rfl rfl ?_
  refine sv_iconst dX3_run_18 ?_
  refine sv_putI (kz := 4) flX3_25 dX3_run_19 (Or.inl rfl) rfl rfl hsc.lt hsc.k (by first | omega | exact hin _ _ | decide | (simp [sv_u, sv_row]; omega) | (simp [sv_u, sv_row]; exact hin _ _) | exact hin1 _ _ | (simp [sv_u, sv_row]; exact hin1 _ _)) ?_
  refine sv_aload_n (i := 0) dX3_run_22 rfl rfl ?_
  refine sv_iconst dX3_run_23 ?_
  refine sv_putI (kz := 5) flX3_28 dX3_run_24 (Or.inl rfl) rfl rfl hsc.lt hsc.k (by first | omega | exact hin _ _ | decide | (simp [sv_u, sv_row]; omega) | (simp [sv_u, sv_row]; exact hin _ _) | exact hin1 _ _ | (simp [sv_u, sv_row]; exact hin1 _ _)) ?_
  refine sv_iconst dX3_run_27 ?_
  refine sv_istore_n (i := 3) dX3_run_28 rfl (by decide) rfl ?_
  refine sv_aload_n (i := 0) dX3_run_29 rfl rfl ?_
  refine sv_vv0 (As := []) clX3_37 dX3_run_30 ⟨_, rfl, rfl⟩ (by decide) rfl (Nat.le_of_ble_eq_true rfl) (by decide) (by decide) hsc.lt hsc.k (c_X3_skipBlanks (f := (sv_u (sv_u (sv_u (sv_cp f vs gm 12) sc 3 (hi + 1)) sc 4 0) sc 5 (-1))) hsc (by simp [sv_u, sv_cp, Ne.symm hnv]; omega) (by simp [sv_u, sv_cp, Ne.symm hnv]; omega)) (fun f4 hf4 => ?_)
  refine sv_iconst dX3_run_33 ?_
  refine sv_istore dX3_run_34 (by decide) rfl ?_
  have hcn : ∀ x, x ≠ vs → sv_cp f vs gm 12 x = f x := fun x hx => by funext y; simp [sv_cp, hx]
  have t1 : (sv_u (sv_u (sv_u (sv_cp f vs gm 12) sc 3 (hi + 1)) sc 4 0) sc 5 (-1)) sc 1 = f sc 1 := by simp only [sv_u_at]; rw [if_neg (by decide), if_neg (by decide), if_neg (by decide), hcn sc (Ne.symm hnv)]
  have tt : (sv_u (sv_u (sv_u (sv_cp f vs gm 12) sc 3 (hi + 1)) sc 4 0) sc 5 (-1)) tx = f tx := by rw [sv_u_ne hne, sv_u_ne hne, sv_u_ne hne, hcn tx hnt]
  have t4 : (sv_u (sv_u (sv_u (sv_cp f vs gm 12) sc 3 (hi + 1)) sc 4 0) sc 5 (-1)) sc 4 = 0 := by simp only [sv_u_at]; rw [if_neg (by decide), if_pos trivial]
  rw [t1, tt, t4] at hf4
  refine sv_cast (lp 22 0 f4 (by omega) (fun i h => by omega) (fun x x0 x1 => ?_) (fun j j3 j4 j5 => ?_) ?_ ?_ ?_ (fun j j0 j1 => ?_)) rfl rfl rfl rfl rfl rfl
  · rw [hf4, sv_u_ne x0, sv_u_ne x0, sv_u_ne x0, sv_u_ne x0, hcn x x1]
  · rw [hf4]; simp only [sv_u_at, if_neg j3, if_neg j4, if_neg j5]; rw [hcn sc (Ne.symm hnv)]
  · rw [hf4]; simp only [sv_u_at]; rw [if_neg (by decide), if_neg (by decide), if_neg (by decide), if_pos trivial]
  · rw [hf4]; simp only [sv_u_at, if_pos]; rfl
  · rw [hf4]; simp only [sv_u_at]; rw [if_neg (by decide), if_pos trivial]
  · rw [hf4, sv_u_ne hnv, sv_u_ne hnv, sv_u_ne hnv, sv_u_ne hnv]
    show sv_cp f vs gm 12 vs j = m (583 + j)
    rw [← (hm j j0 j1).1]; simp [sv_cp]; omega
