theorem sp_skn_stop (t : Int → Int) : ∀ (k : Nat) (p : Int), sp_skn t k p < p + k → t (sp_skn t k p) ≠ 32 := by
  intro k
  induction k with
  | zero => intro p h; simp [sp_skn] at h
  | succ k ih =>
    intro p h
    unfold sp_skn at h ⊢
    by_cases e : t p = 32
    · rw [if_pos e] at h ⊢; exact ih (p + 1) (by omega)
    · rw [if_neg e]; exact e
theorem sp_sk_idem {t : Int → Int} {L p : Int} (h : p ≤ L) : sp_sk t L (sp_sk t L p) = sp_sk t L p := by
  refine sp_sk_end ?_
  unfold sp_nx
  split
  · rename_i h1
    have := sp_skn_stop t (L - p).toNat p (by unfold sp_sk at h1; omega)
    unfold sp_sk; exact this
  · omega
set_option maxRecDepth 100000 in
set_option maxHeartbeats 4000000 in
theorem c_X3_takeAmount {X : sv_X} {S : sv_S} {f : sv_F} {r : sv_R} {g : sv_G} {sc tx vs : Nat} (hsc : sv_K3 S r sc tx vs) (h11 : 0 ≤ f sc 4 ∧ f sc 4 ≤ f sc 1) (h10 : f sc 1 ≤ 80) : sv_C X 3 MX3_takeAmount 0 0 [sv_r sc] S f r g (sv_qi (fun a f' => a = sp_av (f tx) (f sc 1) (sp_sk (f tx) (f sc 1) (f sc 4)) ∧ ∃ q φ : Int, f sc 4 ≤ q ∧ q ≤ f sc 1 ∧ f' = sv_u (sv_u f sc 4 q) sc 5 φ ∧ (f sc 5 ≠ -1 → φ = f sc 5) ∧ (f sc 5 = -1 → φ = (if sp_dg (f tx) (f sc 1) ((sp_sk (f tx) (f sc 1) (f sc 4)) + sp_mi (f tx) (f sc 1) (sp_sk (f tx) (f sc 1) (f sc 4))) = true then -1 else ((sp_sk (f tx) (f sc 1) (f sc 4)) + sp_mi (f tx) (f sc 1) (sp_sk (f tx) (f sc 1) (f sc 4)))) ∧ (φ = -1 → q = (sp_sk (f tx) (f sc 1) (f sc 4)) + sp_al (f tx) (f sc 1) (sp_sk (f tx) (f sc 1) (f sc 4))))) S r g) := by
  refine sv_met (by decide) (by simp [lg_sl, sv_cv, va_rf, Value.category]) ?_
  refine sv_fr fun hin => ?_
  have hne : tx ≠ sc := hsc.2.2.2.2.1
  refine sv_aload_n (i := 0) dX3_takeAmount_0 rfl rfl ?_
  refine sv_vv0 (As := []) clX3_37 dX3_takeAmount_1 ⟨_, rfl, rfl⟩ (by decide) rfl (Nat.le_of_ble_eq_true rfl) (by decide) (by decide) hsc.lt hsc.k (c_X3_skipBlanks hsc h11 h10) (fun f1 hf1 => ?_)
  subst hf1
  have hb := sp_sk_bd (t := f tx) h11.2
  have x4 : (sv_u f sc 4 (sp_sk (f tx) (f sc 1) (f sc 4))) sc 4 = (sp_sk (f tx) (f sc 1) (f sc 4)) := by simp [sv_u]
  have x1 : (sv_u f sc 4 (sp_sk (f tx) (f sc 1) (f sc 4))) sc 1 = f sc 1 := by simp [sv_u]
  have x5 : (sv_u f sc 4 (sp_sk (f tx) (f sc 1) (f sc 4))) sc 5 = f sc 5 := by simp [sv_u]
  have xt : (sv_u f sc 4 (sp_sk (f tx) (f sc 1) (f sc 4))) tx = f tx := sv_u_ne hne
  refine sv_aload_n (i := 0) dX3_takeAmount_4 rfl rfl ?_
  refine sv_bipush dX3_takeAmount_5 (by decide) ?_
  refine sv_vp0 (As := [_]) clX3_123 dX3_takeAmount_7 ⟨_, rfl, rfl⟩ (by decide) rfl (Nat.le_of_ble_eq_true rfl) (by decide) (by decide) hsc.lt hsc.k (c_X3_isNext (f := (sv_u f sc 4 (sp_sk (f tx) (f sc 1) (f sc 4)))) hsc (by rw [x4, x1]; omega) (by rw [x1]; exact h10) 45 (by decide)) ?_
  rw [x4, x1, xt]
  refine sv_bif_ne (tgt := 18) dX3_takeAmount_10 (by decide) (fun h_10 => ?_) (fun h_10 => ?_)
  · have hmi : sp_mi (f tx) (f sc 1) (sp_sk (f tx) (f sc 1) (f sc 4)) = 1 := by unfold sp_mi; rw [if_pos (by assumption)]
    have hlt := sp_nx_lt (by assumption : sp_nx (f tx) (f sc 1) (sp_sk (f tx) (f sc 1) (f sc 4)) = 45) (by decide)
    refine sv_aload_n (i := 0) dX3_takeAmount_18 rfl rfl ?_
    refine sv_dup dX3_takeAmount_19 rfl ?_
    refine sv_getI (kz := 4) flX3_25 dX3_takeAmount_20 rfl rfl hsc.lt hsc.k ?_
    rw [x4]
    refine sv_iconst dX3_takeAmount_23 ?_
    refine sv_iadd dX3_takeAmount_24 ?_
    refine sv_putI (kz := 4) flX3_25 dX3_takeAmount_25 (Or.inl rfl) rfl rfl hsc.lt hsc.k (by first | omega | exact hin _ _ | decide | (simp [sv_u, sv_row]; omega) | (simp [sv_u, sv_row]; exact hin _ _) | exact hin1 _ _ | (simp [sv_u, sv_row]; exact hin1 _ _)) ?_
    rw [sv_u_u]
    have z4 : (sv_u f sc 4 ((sp_sk (f tx) (f sc 1) (f sc 4)) + 1)) sc 4 = (sp_sk (f tx) (f sc 1) (f sc 4)) + 1 := by simp [sv_u]
    have z1 : (sv_u f sc 4 ((sp_sk (f tx) (f sc 1) (f sc 4)) + 1)) sc 1 = f sc 1 := by simp [sv_u]
    have z5 : (sv_u f sc 4 ((sp_sk (f tx) (f sc 1) (f sc 4)) + 1)) sc 5 = f sc 5 := by simp [sv_u]
    have zt : (sv_u f sc 4 ((sp_sk (f tx) (f sc 1) (f sc 4)) + 1)) tx = f tx := sv_u_ne hne
    have hnl := sp_nl_bd (t := f tx) (L := f sc 1) (p := (sp_sk (f tx) (f sc 1) (f sc 4)) + 1) (by omega)
    refine sv_aload_n (i := 0) dX3_takeAmount_28 rfl rfl ?_
    refine sv_vi0 (As := []) clX3_117 dX3_takeAmount_29 ⟨_, rfl, rfl⟩ (by decide) rfl (Nat.le_of_ble_eq_true rfl) (by decide) (by decide) hsc.lt hsc.k (c_X3_takeDigits (f := (sv_u f sc 4 ((sp_sk (f tx) (f sc 1) (f sc 4)) + 1))) hsc (by rw [z4, z1]; omega) (by rw [z1]; exact h10)) (fun a f2 hf2 => ?_)
    rw [z4, z1, z5, zt] at hf2
    obtain ⟨ha, hf2⟩ := hf2
    refine sv_ineg dX3_takeAmount_32 ?_
    refine sv_ireturn dX3_takeAmount_33 rfl ?_
    refine ⟨_, rfl, rfl, rfl, rfl, by unfold sp_av; rw [hmi, if_pos rfl, ha], ?_⟩
    unfold sp_al
    rw [hmi]
    rcases hf2 with ⟨h1, h2⟩ | ⟨h1, h2⟩
    · refine ⟨(sp_sk (f tx) (f sc 1) (f sc 4)) + 1 + sp_nl (f tx) (f sc 1) ((sp_sk (f tx) (f sc 1) (f sc 4)) + 1), f sc 5, by omega, by omega, ?_, fun _ => rfl, fun e => ⟨by rw [if_pos h1]; exact e, fun _ => by omega⟩⟩
      rw [h2, sv_u_u]
      exact sv_u_self (by simp [sv_u])
    · refine ⟨(sp_sk (f tx) (f sc 1) (f sc 4)) + 1, _, by omega, by omega, h2, fun e => by rw [if_neg e], fun e => ⟨by rw [if_pos e, if_neg h1], fun e2 => ?_⟩⟩
      rw [if_pos e] at e2
      omega
  · have hmi : sp_mi (f tx) (f sc 1) (sp_sk (f tx) (f sc 1) (f sc 4)) = 0 := by unfold sp_mi; rw [if_neg (by assumption)]
    refine sv_aload_n (i := 0) dX3_takeAmount_13 rfl rfl ?_
    refine sv_vi0 (As := []) clX3_67 dX3_takeAmount_14 ⟨_, rfl, rfl⟩ (by decide) rfl (Nat.le_of_ble_eq_true rfl) (by decide) (by decide) hsc.lt hsc.k (c_X3_takeNumber (f := (sv_u f sc 4 (sp_sk (f tx) (f sc 1) (f sc 4)))) hsc (by rw [x4, x1]; omega) (by rw [x1]; exact h10)) (fun a f2 hf2 => ?_)
    simp only [x4, x1, x5, xt, sp_sk_idem h11.2, sv_u_u] at hf2
    obtain ⟨ha, q, φ, q1, q2, hf2, p1, p2⟩ := hf2
    refine sv_ireturn dX3_takeAmount_17 rfl ?_
    refine ⟨_, rfl, rfl, rfl, rfl, by unfold sp_av; rw [hmi, if_neg (by decide)]; exact ha, q, φ, by omega, q2, hf2, p1, fun e => ?_⟩
    obtain ⟨y1, y2⟩ := p2 e
    rw [hmi, Int.add_zero]
    exact ⟨y1, fun e2 => by rw [y2 e2]; unfold sp_al; rw [hmi]; simp⟩
