set_option maxRecDepth 100000 in
set_option maxHeartbeats 4000000 in
theorem c_X3_takeIndex {X : sv_X} {S : sv_S} {f : sv_F} {r : sv_R} {g : sv_G} {sc tx vs : Nat} (hsc : sv_K3 S r sc tx vs) (h11 : 0 ≤ f sc 4 ∧ f sc 4 ≤ f sc 1) (h10 : f sc 1 ≤ 80) (least : Int) (hle : sv_in least) : sv_C X 2 MX3_takeIndex 0 0 [sv_r sc, sv_i least] S f r g (sv_qi (fun a f' => ∃ φ : Int, f' = (sv_u (sv_u f sc 4 ((sp_sk (f tx) (f sc 1) (f sc 4)) + sp_nl (f tx) (f sc 1) (sp_sk (f tx) (f sc 1) (f sc 4)))) sc 5 φ) ∧ (f sc 5 ≠ -1 → φ = f sc 5) ∧ (f sc 5 = -1 → φ = sp_nf (f tx) (f sc 1) (sp_sk (f tx) (f sc 1) (f sc 4)) least (f sc 3 - 1)) ∧ a = (if φ = -1 then sp_nv (f tx) (f sc 1) (sp_sk (f tx) (f sc 1) (f sc 4)) else 0)) S r g) := by
  refine sv_met (by decide) (by simp [lg_sl, sv_cv, va_rf, Value.category]) ?_
  refine sv_fr fun hin => ?_
  have hne : tx ≠ sc := hsc.2.2.2.2.1
  have hb := sp_sk_bd (t := f tx) h11.2
  have hnl := sp_nl_bd (t := f tx) hb.2
  have hnv := sp_nv_bd (f tx) (f sc 1) (sp_sk (f tx) (f sc 1) (f sc 4))
  have g47 : ∀ φ : Int, (f sc 5 ≠ -1 → φ = f sc 5) → (f sc 5 = -1 → φ = sp_nf (f tx) (f sc 1) (sp_sk (f tx) (f sc 1) (f sc 4)) least (f sc 3 - 1)) → sv_T X (sv_rm 2 0 0) MX3_takeIndex (sv_Zm X 0 0 (sv_qi (fun a f' => ∃ φ : Int, f' = (sv_u (sv_u f sc 4 ((sp_sk (f tx) (f sc 1) (f sc 4)) + sp_nl (f tx) (f sc 1) (sp_sk (f tx) (f sc 1) (f sc 4)))) sc 5 φ) ∧ (f sc 5 ≠ -1 → φ = f sc 5) ∧ (f sc 5 = -1 → φ = sp_nf (f tx) (f sc 1) (sp_sk (f tx) (f sc 1) (f sc 4)) least (f sc 3 - 1)) ∧ a = (if φ = -1 then sp_nv (f tx) (f sc 1) (sp_sk (f tx) (f sc 1) (f sc 4)) else 0)) S r g)) 0 0 47 [some (sv_r sc), some (sv_i least), some (sv_i (sp_sk (f tx) (f sc 1) (f sc 4))), some (sv_i (sp_nv (f tx) (f sc 1) (sp_sk (f tx) (f sc 1) (f sc 4))))] [] S ((sv_u (sv_u f sc 4 ((sp_sk (f tx) (f sc 1) (f sc 4)) + sp_nl (f tx) (f sc 1) (sp_sk (f tx) (f sc 1) (f sc 4)))) sc 5 φ)) r g := by
    intro φ h1 h2
    refine sv_fr fun hin1 => ?_
    have y4 : (sv_u (sv_u f sc 4 ((sp_sk (f tx) (f sc 1) (f sc 4)) + sp_nl (f tx) (f sc 1) (sp_sk (f tx) (f sc 1) (f sc 4)))) sc 5 φ) sc 4 = ((sp_sk (f tx) (f sc 1) (f sc 4)) + sp_nl (f tx) (f sc 1) (sp_sk (f tx) (f sc 1) (f sc 4))) := by simp [sv_u]
    have y1 : (sv_u (sv_u f sc 4 ((sp_sk (f tx) (f sc 1) (f sc 4)) + sp_nl (f tx) (f sc 1) (sp_sk (f tx) (f sc 1) (f sc 4)))) sc 5 φ) sc 1 = f sc 1 := by simp [sv_u]
    have y5 : (sv_u (sv_u f sc 4 ((sp_sk (f tx) (f sc 1) (f sc 4)) + sp_nl (f tx) (f sc 1) (sp_sk (f tx) (f sc 1) (f sc 4)))) sc 5 φ) sc 5 = φ := by simp [sv_u]
    have y3 : (sv_u (sv_u f sc 4 ((sp_sk (f tx) (f sc 1) (f sc 4)) + sp_nl (f tx) (f sc 1) (sp_sk (f tx) (f sc 1) (f sc 4)))) sc 5 φ) sc 3 = f sc 3 := by simp [sv_u]
    have yt : (sv_u (sv_u f sc 4 ((sp_sk (f tx) (f sc 1) (f sc 4)) + sp_nl (f tx) (f sc 1) (sp_sk (f tx) (f sc 1) (f sc 4)))) sc 5 φ) tx = f tx := by rw [sv_u_ne hne, sv_u_ne hne]
    refine sv_aload_n (i := 0) dX3_takeIndex_47 rfl rfl ?_
    refine sv_getI (kz := 5) flX3_28 dX3_takeIndex_48 rfl rfl hsc.lt hsc.k ?_
    rw [y5]
    refine sv_iconst dX3_takeIndex_51 ?_
    refine sv_icmp_ne (tgt := 59) dX3_takeIndex_52 (by decide) (y5 ▸ hin1 _ _) (by first | omega | exact hin _ _ | decide | (simp [sv_u, sv_row]; omega) | (simp [sv_u, sv_row]; exact hin _ _) | exact hin1 _ _ | (simp [sv_u, sv_row]; exact hin1 _ _)) (fun h_52 => ?_) (fun h_52 => ?_)
    · refine sv_iconst dX3_takeIndex_59 ?_
      refine sv_ireturn dX3_takeIndex_60 rfl ?_
      first | exact ⟨_, rfl, rfl, rfl, rfl, φ, rfl, h1, h2, by rw [if_pos (by assumption)]⟩ | exact ⟨_, rfl, rfl, rfl, rfl, φ, rfl, h1, h2, by rw [if_neg (by assumption)]⟩
    · refine sv_iload_n (i := 3) dX3_takeIndex_55 rfl rfl ?_
      refine sv_goto (tgt := 60) dX3_takeIndex_56 (by decide) ?_
      refine sv_ireturn dX3_takeIndex_60 rfl ?_
      first | exact ⟨_, rfl, rfl, rfl, rfl, φ, rfl, h1, h2, by rw [if_pos (by assumption)]⟩ | exact ⟨_, rfl, rfl, rfl, rfl, φ, rfl, h1, h2, by rw [if_neg (by assumption)]⟩
  have g32 : ∀ φ : Int, (f sc 5 ≠ -1 → φ = f sc 5) → (f sc 5 = -1 → φ = if sp_nl (f tx) (f sc 1) (sp_sk (f tx) (f sc 1) (f sc 4)) = 0 ∨ ¬ (least ≤ sp_nv (f tx) (f sc 1) (sp_sk (f tx) (f sc 1) (f sc 4)) ∧ sp_nv (f tx) (f sc 1) (sp_sk (f tx) (f sc 1) (f sc 4)) ≤ f sc 3 - 1) then (sp_sk (f tx) (f sc 1) (f sc 4)) else -1) → sv_T X (sv_rm 2 0 0) MX3_takeIndex (sv_Zm X 0 0 (sv_qi (fun a f' => ∃ φ : Int, f' = (sv_u (sv_u f sc 4 ((sp_sk (f tx) (f sc 1) (f sc 4)) + sp_nl (f tx) (f sc 1) (sp_sk (f tx) (f sc 1) (f sc 4)))) sc 5 φ) ∧ (f sc 5 ≠ -1 → φ = f sc 5) ∧ (f sc 5 = -1 → φ = sp_nf (f tx) (f sc 1) (sp_sk (f tx) (f sc 1) (f sc 4)) least (f sc 3 - 1)) ∧ a = (if φ = -1 then sp_nv (f tx) (f sc 1) (sp_sk (f tx) (f sc 1) (f sc 4)) else 0)) S r g)) 0 0 32 [some (sv_r sc), some (sv_i least), some (sv_i (sp_sk (f tx) (f sc 1) (f sc 4))), some (sv_i (sp_nv (f tx) (f sc 1) (sp_sk (f tx) (f sc 1) (f sc 4))))] [] S ((sv_u (sv_u f sc 4 ((sp_sk (f tx) (f sc 1) (f sc 4)) + sp_nl (f tx) (f sc 1) (sp_sk (f tx) (f sc 1) (f sc 4)))) sc 5 φ)) r g := by
    intro φ h1 h2
    have y4 : (sv_u (sv_u f sc 4 ((sp_sk (f tx) (f sc 1) (f sc 4)) + sp_nl (f tx) (f sc 1) (sp_sk (f tx) (f sc 1) (f sc 4)))) sc 5 φ) sc 4 = ((sp_sk (f tx) (f sc 1) (f sc 4)) + sp_nl (f tx) (f sc 1) (sp_sk (f tx) (f sc 1) (f sc 4))) := by simp [sv_u]
    have y1 : (sv_u (sv_u f sc 4 ((sp_sk (f tx) (f sc 1) (f sc 4)) + sp_nl (f tx) (f sc 1) (sp_sk (f tx) (f sc 1) (f sc 4)))) sc 5 φ) sc 1 = f sc 1 := by simp [sv_u]
    have y5 : (sv_u (sv_u f sc 4 ((sp_sk (f tx) (f sc 1) (f sc 4)) + sp_nl (f tx) (f sc 1) (sp_sk (f tx) (f sc 1) (f sc 4)))) sc 5 φ) sc 5 = φ := by simp [sv_u]
    have y3 : (sv_u (sv_u f sc 4 ((sp_sk (f tx) (f sc 1) (f sc 4)) + sp_nl (f tx) (f sc 1) (sp_sk (f tx) (f sc 1) (f sc 4)))) sc 5 φ) sc 3 = f sc 3 := by simp [sv_u]
    have yt : (sv_u (sv_u f sc 4 ((sp_sk (f tx) (f sc 1) (f sc 4)) + sp_nl (f tx) (f sc 1) (sp_sk (f tx) (f sc 1) (f sc 4)))) sc 5 φ) tx = f tx := by rw [sv_u_ne hne, sv_u_ne hne]
    refine sv_aload_n (i := 0) dX3_takeIndex_32 rfl rfl ?_
    refine sv_vp0 (As := []) clX3_120 dX3_takeIndex_33 ⟨_, rfl, rfl⟩ (by decide) rfl (Nat.le_of_ble_eq_true rfl) (by decide) (by decide) hsc.lt hsc.k (c_X3_isDigitNext (f := (sv_u (sv_u f sc 4 ((sp_sk (f tx) (f sc 1) (f sc 4)) + sp_nl (f tx) (f sc 1) (sp_sk (f tx) (f sc 1) (f sc 4)))) sc 5 φ)) hsc (by rw [y4, y1]; omega) (by rw [y1]; exact h10)) ?_
    rw [y4, y1, yt]
    refine sv_bif_eq (tgt := 47) dX3_takeIndex_36 (by decide) (fun h_36 => ?_) (fun h_36 => ?_)
    · first
      | (rw [y5, sv_u_u] at hf2
         subst hf2
         exact g47 _ (fun e => by rw [if_neg (by rw [h1 e]; exact e)]; exact h1 e) (fun e => by unfold sp_nf; grind))
      | exact g47 φ h1 (fun e => by unfold sp_nf; grind)
    · refine sv_aload_n (i := 0) dX3_takeIndex_39 rfl rfl ?_
      refine sv_aload_n (i := 0) dX3_takeIndex_40 rfl rfl ?_
      refine sv_getI (kz := 4) flX3_25 dX3_takeIndex_41 rfl rfl hsc.lt hsc.k ?_
      rw [y4]
      refine sv_vv0 (As := [_]) clX3_92 dX3_takeIndex_44 ⟨_, rfl, rfl⟩ (by decide) rfl (Nat.le_of_ble_eq_true rfl) (by decide) (by decide) hsc.lt hsc.k (c_X3_failAt (f := (sv_u (sv_u f sc 4 ((sp_sk (f tx) (f sc 1) (f sc 4)) + sp_nl (f tx) (f sc 1) (sp_sk (f tx) (f sc 1) (f sc 4)))) sc 5 φ)) hsc _ (by omega)) (fun f2 hf2 => ?_)
      first
      | (rw [y5, sv_u_u] at hf2
         subst hf2
         exact g47 _ (fun e => by rw [if_neg (by rw [h1 e]; exact e)]; exact h1 e) (fun e => by unfold sp_nf; grind))
      | exact g47 φ h1 (fun e => by unfold sp_nf; grind)
  have g14 : ∀ φ : Int, (f sc 5 ≠ -1 → φ = f sc 5) → (f sc 5 = -1 → φ = if sp_nl (f tx) (f sc 1) (sp_sk (f tx) (f sc 1) (f sc 4)) = 0 then (sp_sk (f tx) (f sc 1) (f sc 4)) else -1) → sv_T X (sv_rm 2 0 0) MX3_takeIndex (sv_Zm X 0 0 (sv_qi (fun a f' => ∃ φ : Int, f' = (sv_u (sv_u f sc 4 ((sp_sk (f tx) (f sc 1) (f sc 4)) + sp_nl (f tx) (f sc 1) (sp_sk (f tx) (f sc 1) (f sc 4)))) sc 5 φ) ∧ (f sc 5 ≠ -1 → φ = f sc 5) ∧ (f sc 5 = -1 → φ = sp_nf (f tx) (f sc 1) (sp_sk (f tx) (f sc 1) (f sc 4)) least (f sc 3 - 1)) ∧ a = (if φ = -1 then sp_nv (f tx) (f sc 1) (sp_sk (f tx) (f sc 1) (f sc 4)) else 0)) S r g)) 0 0 14 [some (sv_r sc), some (sv_i least), some (sv_i (sp_sk (f tx) (f sc 1) (f sc 4))), some (sv_i (sp_nv (f tx) (f sc 1) (sp_sk (f tx) (f sc 1) (f sc 4))))] [] S ((sv_u (sv_u f sc 4 ((sp_sk (f tx) (f sc 1) (f sc 4)) + sp_nl (f tx) (f sc 1) (sp_sk (f tx) (f sc 1) (f sc 4)))) sc 5 φ)) r g := by
    intro φ h1 h2
    have y4 : (sv_u (sv_u f sc 4 ((sp_sk (f tx) (f sc 1) (f sc 4)) + sp_nl (f tx) (f sc 1) (sp_sk (f tx) (f sc 1) (f sc 4)))) sc 5 φ) sc 4 = ((sp_sk (f tx) (f sc 1) (f sc 4)) + sp_nl (f tx) (f sc 1) (sp_sk (f tx) (f sc 1) (f sc 4))) := by simp [sv_u]
    have y1 : (sv_u (sv_u f sc 4 ((sp_sk (f tx) (f sc 1) (f sc 4)) + sp_nl (f tx) (f sc 1) (sp_sk (f tx) (f sc 1) (f sc 4)))) sc 5 φ) sc 1 = f sc 1 := by simp [sv_u]
    have y5 : (sv_u (sv_u f sc 4 ((sp_sk (f tx) (f sc 1) (f sc 4)) + sp_nl (f tx) (f sc 1) (sp_sk (f tx) (f sc 1) (f sc 4)))) sc 5 φ) sc 5 = φ := by simp [sv_u]
    have y3 : (sv_u (sv_u f sc 4 ((sp_sk (f tx) (f sc 1) (f sc 4)) + sp_nl (f tx) (f sc 1) (sp_sk (f tx) (f sc 1) (f sc 4)))) sc 5 φ) sc 3 = f sc 3 := by simp [sv_u]
    have yt : (sv_u (sv_u f sc 4 ((sp_sk (f tx) (f sc 1) (f sc 4)) + sp_nl (f tx) (f sc 1) (sp_sk (f tx) (f sc 1) (f sc 4)))) sc 5 φ) tx = f tx := by rw [sv_u_ne hne, sv_u_ne hne]
    refine sv_iload_n (i := 3) dX3_takeIndex_14 rfl rfl ?_
    refine sv_iload_n (i := 1) dX3_takeIndex_15 rfl rfl ?_
    refine sv_icmp_lt (tgt := 27) dX3_takeIndex_16 (by decide) (by omega) hle (fun h_16 => ?_) (fun h_16 => ?_)
    · refine sv_aload_n (i := 0) dX3_takeIndex_27 rfl rfl ?_
      refine sv_iload_n (i := 2) dX3_takeIndex_28 rfl rfl ?_
      refine sv_vv0 (As := [_]) clX3_92 dX3_takeIndex_29 ⟨_, rfl, rfl⟩ (by decide) rfl (Nat.le_of_ble_eq_true rfl) (by decide) (by decide) hsc.lt hsc.k (c_X3_failAt (f := (sv_u (sv_u f sc 4 ((sp_sk (f tx) (f sc 1) (f sc 4)) + sp_nl (f tx) (f sc 1) (sp_sk (f tx) (f sc 1) (f sc 4)))) sc 5 φ)) hsc _ (by omega)) (fun f2 hf2 => ?_)
      first
      | (rw [y5, sv_u_u] at hf2
         subst hf2
         exact g32 _ (fun e => by rw [if_neg (by rw [h1 e]; exact e)]; exact h1 e) (fun e => by grind))
      | exact g32 φ h1 (fun e => by grind)
    · refine sv_iload_n (i := 3) dX3_takeIndex_19 rfl rfl ?_
      refine sv_aload_n (i := 0) dX3_takeIndex_20 rfl rfl ?_
      refine sv_getI (kz := 3) flX3_22 dX3_takeIndex_21 rfl rfl hsc.lt hsc.k ?_
      rw [y3]
      refine sv_icmp_lt (tgt := 32) dX3_takeIndex_24 (by decide) (by omega) (hin _ _) (fun h_24 => ?_) (fun h_24 => ?_)
      · first
        | (rw [y5, sv_u_u] at hf2
           subst hf2
           exact g32 _ (fun e => by rw [if_neg (by rw [h1 e]; exact e)]; exact h1 e) (fun e => by grind))
        | exact g32 φ h1 (fun e => by grind)
      · refine sv_aload_n (i := 0) dX3_takeIndex_27 rfl rfl ?_
        refine sv_iload_n (i := 2) dX3_takeIndex_28 rfl rfl ?_
        refine sv_vv0 (As := [_]) clX3_92 dX3_takeIndex_29 ⟨_, rfl, rfl⟩ (by decide) rfl (Nat.le_of_ble_eq_true rfl) (by decide) (by decide) hsc.lt hsc.k (c_X3_failAt (f := (sv_u (sv_u f sc 4 ((sp_sk (f tx) (f sc 1) (f sc 4)) + sp_nl (f tx) (f sc 1) (sp_sk (f tx) (f sc 1) (f sc 4)))) sc 5 φ)) hsc _ (by omega)) (fun f2 hf2 => ?_)
        first
        | (rw [y5, sv_u_u] at hf2
           subst hf2
           exact g32 _ (fun e => by rw [if_neg (by rw [h1 e]; exact e)]; exact h1 e) (fun e => by grind))
        | exact g32 φ h1 (fun e => by grind)
  refine sv_aload_n (i := 0) dX3_takeIndex_0 rfl rfl ?_
  refine sv_vv0 (As := []) clX3_37 dX3_takeIndex_1 ⟨_, rfl, rfl⟩ (by decide) rfl (Nat.le_of_ble_eq_true rfl) (by decide) (by decide) hsc.lt hsc.k (c_X3_skipBlanks hsc h11 h10) (fun f1 hf1 => ?_)
  subst hf1
  have x4 : (sv_u f sc 4 (sp_sk (f tx) (f sc 1) (f sc 4))) sc 4 = (sp_sk (f tx) (f sc 1) (f sc 4)) := by simp [sv_u]
  have x1 : (sv_u f sc 4 (sp_sk (f tx) (f sc 1) (f sc 4))) sc 1 = f sc 1 := by simp [sv_u]
  have x5 : (sv_u f sc 4 (sp_sk (f tx) (f sc 1) (f sc 4))) sc 5 = f sc 5 := by simp [sv_u]
  have xt : (sv_u f sc 4 (sp_sk (f tx) (f sc 1) (f sc 4))) tx = f tx := sv_u_ne hne
  refine sv_aload_n (i := 0) dX3_takeIndex_4 rfl rfl ?_
  refine sv_getI (kz := 4) flX3_25 dX3_takeIndex_5 rfl rfl hsc.lt hsc.k ?_
  rw [x4]
  refine sv_istore_n (i := 2) dX3_takeIndex_8 rfl (by decide) rfl ?_
  refine sv_aload_n (i := 0) dX3_takeIndex_9 rfl rfl ?_
  refine sv_vi0 (As := []) clX3_117 dX3_takeIndex_10 ⟨_, rfl, rfl⟩ (by decide) rfl (Nat.le_of_ble_eq_true rfl) (by decide) (by decide) hsc.lt hsc.k (c_X3_takeDigits (f := (sv_u f sc 4 (sp_sk (f tx) (f sc 1) (f sc 4)))) hsc (by rw [x4, x1]; omega) (by rw [x1]; exact h10)) (fun a f2 hf2 => ?_)
  rw [x4, x1, x5, xt] at hf2
  obtain ⟨ha, hf2⟩ := hf2
  subst ha
  refine sv_istore_n (i := 3) dX3_takeIndex_13 rfl (by decide) rfl ?_
  rcases hf2 with ⟨z1, z2⟩ | ⟨z1, z2⟩
  · rw [sv_u_u] at z2
    refine sv_cast (g14 (f sc 5) (fun _ => rfl) (fun e => ?_)) rfl rfl rfl rfl rfl ?_
    · rw [if_neg ?_]
      · exact e
      · unfold sp_nl; rw [if_pos z1]; split <;> omega
    · rw [z2]; exact (sv_u_self (by simp [sv_u])).symm
  · have hn0 : sp_nl (f tx) (f sc 1) (sp_sk (f tx) (f sc 1) (f sc 4)) = 0 := by unfold sp_nl; rw [if_neg z1]
    refine sv_cast (g14 (if f sc 5 = -1 then (sp_sk (f tx) (f sc 1) (f sc 4)) else f sc 5) (fun e => ?_) (fun e => ?_)) rfl rfl rfl rfl rfl ?_
    · rw [if_neg e]
    · rw [if_pos e, if_pos hn0]
    · rw [z2, hn0, Int.add_zero]
