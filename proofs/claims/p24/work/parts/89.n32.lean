set_option maxRecDepth 100000 in
set_option maxHeartbeats 4000000 in
theorem c_X3_isSpelled {X : sv_X} {S : sv_S} {f : sv_F} {r : sv_R} {g : sv_G} {sc tx vs : Nat} (hsc : sv_K3 S r sc tx vs) (h11 : 0 ≤ f sc 4 ∧ f sc 4 ≤ f sc 1) (h10 : f sc 1 ≤ 80) (k : Nat) (hk5 : k < 5) (p : Int) (hp : 0 ≤ p ∧ p ≤ f sc 4) : sv_C X 4 MX3_isSpelled 0 0 [sv_r sc, sv_w (sv_aK X k), sv_i p] S f r g (sv_qp (some (sv_i (if sp_isw (f tx) (sv_ch k) p (f sc 4) (sv_ln k) = true then 1 else 0))) S f r g) := by
  refine sv_met (by decide) (by simp [lg_sl, sv_cv, va_rf, Value.category]) ?_
  refine sv_fr fun hin => ?_
  have hln := sv_ln_in k
  have lq : f sc 4 - p = sv_ln k → sv_T X (sv_rm 4 0 0) MX3_isSpelled (sv_Zm X 0 0 (sv_qp (some (sv_i (if sp_isw (f tx) (sv_ch k) p (f sc 4) (sv_ln k) = true then 1 else 0))) S f r g)) 0 0 15 [some (sv_r sc), some (sv_w (sv_aK X k)), some (sv_i p), none] [] S (f) r g := by
    intro he
    have lp : ∀ (kk : Nat) (i : Nat), (sv_ln k : Int) - i < (kk : Int) → (i ≤ sv_ln k) → (sp_eqs (f tx) (sv_ch k) p i = true) → sv_T X (sv_rm 4 0 0) MX3_isSpelled (sv_Zm X 0 0 (sv_qp (some (sv_i (if sp_isw (f tx) (sv_ch k) p (f sc 4) (sv_ln k) = true then 1 else 0))) S f r g)) 0 0 17 [some (sv_r sc), some (sv_w (sv_aK X k)), some (sv_i p), some (sv_i (i : Nat))] [] S (f) r g := by
      intro kk
      induction kk with
      | zero =>
        intro i hkk h1 h2
        exact absurd hkk (by omega)
      | succ kk ih =>
        intro i hkk h1 h2
        refine sv_iload_n (i := 3) dX3_isSpelled_17 rfl rfl ?_
        refine sv_wload_n (i := 1) dX3_isSpelled_18 rfl rfl ?_
        refine sv_wp0 (As := []) clX3_109 dX3_isSpelled_19 rfl rfl (Nat.le_of_ble_eq_true rfl) (by decide) (by decide) hk5 (c_J0_length_8abf5 hk5) ?_
        refine sv_icmp_ge (tgt := 49) dX3_isSpelled_22 (by decide) (by unfold sv_in; omega) (by unfold sv_in; omega) (fun h_22 => ?_) (fun h_22 => ?_)
        · refine sv_iconst dX3_isSpelled_49 ?_
          refine sv_zreturn dX3_isSpelled_50 rfl (by first | exact sv_b01 _ | decide) ?_
          refine ⟨?_, rfl, rfl, rfl, rfl⟩
          rw [if_pos ?_]
          unfold sp_isw
          rw [Bool.and_eq_true, decide_eq_true_eq]
          exact ⟨he, by rw [show sv_ln k = i by omega]; exact h2⟩
        · refine sv_aload_n (i := 0) dX3_isSpelled_25 rfl rfl ?_
          refine sv_getR (kz := 0) flX3_9 dX3_isSpelled_26 rfl rfl hsc.lt hsc.k hsc.r0 ?_
          refine sv_iload_n (i := 2) dX3_isSpelled_29 rfl rfl ?_
          refine sv_iload_n (i := 3) dX3_isSpelled_30 rfl rfl ?_
          refine sv_iadd dX3_isSpelled_31 ?_
          refine sv_iald dX3_isSpelled_32 hsc.l0 hsc.s0 (by omega) ?_
          refine sv_wload_n (i := 1) dX3_isSpelled_33 rfl rfl ?_
          refine sv_iload_n (i := 3) dX3_isSpelled_34 rfl rfl ?_
          refine sv_wp0 (As := [_]) clX3_113 dX3_isSpelled_35 rfl rfl (Nat.le_of_ble_eq_true rfl) (by decide) (by decide) hk5 (c_J0_charAt_5068e hk5 (by omega)) ?_
          obtain ⟨-, c2, c3, -⟩ := sv_ch_b k hk5 i (by omega)
          refine sv_icmp_eq (tgt := 43) dX3_isSpelled_38 (by decide) (hin _ _) (by unfold sv_in; omega) (fun h_38 => ?_) (fun h_38 => ?_)
          · refine sv_iinc dX3_isSpelled_43 rfl (by decide) rfl ?_
            refine sv_goto (tgt := 17) dX3_isSpelled_46 (by decide) ?_
            exact sv_cast (ih (i + 1) (by omega) (by omega) (by unfold sp_eqs; rw [Bool.and_eq_true, decide_eq_true_eq]; exact ⟨h2, by assumption⟩)) rfl rfl rfl rfl rfl rfl
          · refine sv_iconst dX3_isSpelled_41 ?_
            refine sv_zreturn dX3_isSpelled_42 rfl (by first | exact sv_b01 _ | decide) ?_
            refine ⟨?_, rfl, rfl, rfl, rfl⟩
            rw [if_neg ?_]
            unfold sp_isw
            rw [Bool.and_eq_true]
            rintro ⟨-, h⟩
            exact absurd (sp_eqs_iff.mp h i (by omega)) (by assumption)
    refine sv_iconst dX3_isSpelled_15 ?_
    refine sv_istore_n (i := 3) dX3_isSpelled_16 rfl (by decide) rfl ?_
    exact lp (sv_ln k + 1) 0 (by omega) (by omega) rfl
  refine sv_aload_n (i := 0) dX3_isSpelled_0 rfl rfl ?_
  refine sv_getI (kz := 4) flX3_25 dX3_isSpelled_1 rfl rfl hsc.lt hsc.k ?_
  refine sv_iload_n (i := 2) dX3_isSpelled_4 rfl rfl ?_
  refine sv_isub dX3_isSpelled_5 ?_
  refine sv_wload_n (i := 1) dX3_isSpelled_6 rfl rfl ?_
  refine sv_wp0 (As := []) clX3_109 dX3_isSpelled_7 rfl rfl (Nat.le_of_ble_eq_true rfl) (by decide) (by decide) hk5 (c_J0_length_8abf5 hk5) ?_
  refine sv_icmp_eq (tgt := 15) dX3_isSpelled_10 (by decide) (by unfold sv_in; omega) (by unfold sv_in; omega) (fun h_10 => ?_) (fun h_10 => ?_)
  · exact lq (by assumption)
  · refine sv_iconst dX3_isSpelled_13 ?_
    refine sv_zreturn dX3_isSpelled_14 rfl (by first | exact sv_b01 _ | decide) ?_
    refine ⟨?_, rfl, rfl, rfl, rfl⟩
    rw [if_neg ?_]
    unfold sp_isw
    rw [Bool.and_eq_true, decide_eq_true_eq]
    rintro ⟨h, -⟩
    omega
set_option maxRecDepth 100000 in
set_option maxHeartbeats 4000000 in
theorem c_X3_wordAt {X : sv_X} {S : sv_S} {f : sv_F} {r : sv_R} {g : sv_G} {sc tx vs : Nat} (hsc : sv_K3 S r sc tx vs) (h11 : 0 ≤ f sc 4 ∧ f sc 4 ≤ f sc 1) (h10 : f sc 1 ≤ 80) (p : Int) (hp : 0 ≤ p ∧ p ≤ f sc 4) : sv_C X 5 MX3_wordAt 0 0 [sv_r sc, sv_i p] S f r g (sv_qp (some (sv_i (sp_wo (f tx) p (f sc 4)))) S f r g) := by
  refine sv_met (by decide) (by simp [lg_sl, sv_cv, va_rf, Value.category]) ?_
  refine sv_fr fun hin => ?_
  refine sv_aload_n (i := 0) dX3_wordAt_0 rfl rfl ?_
  refine sv_ldcS (k := 0) (by decide) rfl rfl dX3_wordAt_1 ?_
  refine sv_iload_n (i := 1) dX3_wordAt_3 rfl rfl ?_
  refine sv_vp0 (As := [_, _]) clX3_97 dX3_wordAt_4 ⟨_, rfl, rfl⟩ (by decide) rfl (Nat.le_of_ble_eq_true rfl) (by decide) (by decide) hsc.lt hsc.k (c_X3_isSpelled hsc h11 h10 0 (by decide) p hp) ?_
  rw [show sp_isw (f tx) (sv_ch 0) p (f sc 4) (sv_ln 0) = sp_isw (f tx) (sp_l3 115 101 116) p (f sc 4) 3 from rfl]
  refine sv_bif_eq (tgt := 12) dX3_wordAt_7 (by decide) (fun h_7 => ?_) (fun h_7 => ?_)
  · refine sv_aload_n (i := 0) dX3_wordAt_12 rfl rfl ?_
    refine sv_ldcS (k := 1) (by decide) rfl rfl dX3_wordAt_13 ?_
    refine sv_iload_n (i := 1) dX3_wordAt_15 rfl rfl ?_
    refine sv_vp0 (As := [_, _]) clX3_97 dX3_wordAt_16 ⟨_, rfl, rfl⟩ (by decide) rfl (Nat.le_of_ble_eq_true rfl) (by decide) (by decide) hsc.lt hsc.k (c_X3_isSpelled hsc h11 h10 1 (by decide) p hp) ?_
    rw [show sp_isw (f tx) (sv_ch 1) p (f sc 4) (sv_ln 1) = sp_isw (f tx) (sp_l3 97 100 100) p (f sc 4) 3 from rfl]
    refine sv_bif_eq (tgt := 24) dX3_wordAt_19 (by decide) (fun h_19 => ?_) (fun h_19 => ?_)
    · refine sv_aload_n (i := 0) dX3_wordAt_24 rfl rfl ?_
      refine sv_ldcS (k := 2) (by decide) rfl rfl dX3_wordAt_25 ?_
      refine sv_iload_n (i := 1) dX3_wordAt_27 rfl rfl ?_
      refine sv_vp0 (As := [_, _]) clX3_97 dX3_wordAt_28 ⟨_, rfl, rfl⟩ (by decide) rfl (Nat.le_of_ble_eq_true rfl) (by decide) (by decide) hsc.lt hsc.k (c_X3_isSpelled hsc h11 h10 2 (by decide) p hp) ?_
      rw [show sp_isw (f tx) (sv_ch 2) p (f sc 4) (sv_ln 2) = sp_isw (f tx) (sp_l4 115 119 97 112) p (f sc 4) 4 from rfl]
      refine sv_bif_eq (tgt := 36) dX3_wordAt_31 (by decide) (fun h_31 => ?_) (fun h_31 => ?_)
      · refine sv_aload_n (i := 0) dX3_wordAt_36 rfl rfl ?_
        refine sv_ldcS (k := 3) (by decide) rfl rfl dX3_wordAt_37 ?_
        refine sv_iload_n (i := 1) dX3_wordAt_39 rfl rfl ?_
        refine sv_vp0 (As := [_, _]) clX3_97 dX3_wordAt_40 ⟨_, rfl, rfl⟩ (by decide) rfl (Nat.le_of_ble_eq_true rfl) (by decide) (by decide) hsc.lt hsc.k (c_X3_isSpelled hsc h11 h10 3 (by decide) p hp) ?_
        rw [show sp_isw (f tx) (sv_ch 3) p (f sc 4) (sv_ln 3) = sp_isw (f tx) (sp_l4 102 105 108 108) p (f sc 4) 4 from rfl]
        refine sv_bif_eq (tgt := 48) dX3_wordAt_43 (by decide) (fun h_43 => ?_) (fun h_43 => ?_)
        · refine sv_aload_n (i := 0) dX3_wordAt_48 rfl rfl ?_
          refine sv_ldcS (k := 4) (by decide) rfl rfl dX3_wordAt_49 ?_
          refine sv_iload_n (i := 1) dX3_wordAt_51 rfl rfl ?_
          refine sv_vp0 (As := [_, _]) clX3_97 dX3_wordAt_52 ⟨_, rfl, rfl⟩ (by decide) rfl (Nat.le_of_ble_eq_true rfl) (by decide) (by decide) hsc.lt hsc.k (c_X3_isSpelled hsc h11 h10 4 (by decide) p hp) ?_
          rw [show sp_isw (f tx) (sv_ch 4) p (f sc 4) (sv_ln 4) = sp_isw (f tx) (sp_l4 116 117 114 110) p (f sc 4) 4 from rfl]
          refine sv_bif_eq (tgt := 62) dX3_wordAt_55 (by decide) (fun h_55 => ?_) (fun h_55 => ?_)
          · refine sv_iconst dX3_wordAt_62 ?_
            refine sv_ireturn dX3_wordAt_63 rfl ?_
            exact ⟨by simp [sp_wo, *], rfl, rfl, rfl, rfl⟩
          · refine sv_iconst dX3_wordAt_58 ?_
            refine sv_goto (tgt := 63) dX3_wordAt_59 (by decide) ?_
            refine sv_ireturn dX3_wordAt_63 rfl ?_
            exact ⟨by simp [sp_wo, *], rfl, rfl, rfl, rfl⟩
        · refine sv_iconst dX3_wordAt_46 ?_
          refine sv_ireturn dX3_wordAt_47 rfl ?_
          exact ⟨by simp [sp_wo, *], rfl, rfl, rfl, rfl⟩
      · refine sv_iconst dX3_wordAt_34 ?_
        refine sv_ireturn dX3_wordAt_35 rfl ?_
        exact ⟨by simp [sp_wo, *], rfl, rfl, rfl, rfl⟩
    · refine sv_iconst dX3_wordAt_22 ?_
      refine sv_ireturn dX3_wordAt_23 rfl ?_
      exact ⟨by simp [sp_wo, *], rfl, rfl, rfl, rfl⟩
  · refine sv_iconst dX3_wordAt_10 ?_
    refine sv_ireturn dX3_wordAt_11 rfl ?_
    exact ⟨by simp [sp_wo, *], rfl, rfl, rfl, rfl⟩
set_option maxRecDepth 100000 in
set_option maxHeartbeats 4000000 in
theorem c_X3_takeWord {X : sv_X} {S : sv_S} {f : sv_F} {r : sv_R} {g : sv_G} {sc tx vs : Nat} (hsc : sv_K3 S r sc tx vs) (h11 : 0 ≤ f sc 4 ∧ f sc 4 ≤ f sc 1) (h10 : f sc 1 ≤ 80) : sv_C X 6 MX3_takeWord 0 0 [sv_r sc] S f r g (sv_qi (fun a f' => a = (sp_wo (f tx) (f sc 4) (sp_lt (f tx) (f sc 1) (f sc 4))) ∧ f' = if (sp_wo (f tx) (f sc 4) (sp_lt (f tx) (f sc 1) (f sc 4))) = -1 then sv_u (sv_u f sc 4 (sp_lt (f tx) (f sc 1) (f sc 4))) sc 5 (if f sc 5 = -1 then f sc 4 else f sc 5) else (sv_u f sc 4 (sp_lt (f tx) (f sc 1) (f sc 4)))) S r g) := by
  refine sv_met (by decide) (by simp [lg_sl, sv_cv, va_rf, Value.category]) ?_
  refine sv_fr fun hin => ?_
  have hne : tx ≠ sc := hsc.2.2.2.2.1
  have hb := sp_lt_bd (t := f tx) h11.2
  have x4 : (sv_u f sc 4 (sp_lt (f tx) (f sc 1) (f sc 4))) sc 4 = (sp_lt (f tx) (f sc 1) (f sc 4)) := by simp [sv_u]
  have x1 : (sv_u f sc 4 (sp_lt (f tx) (f sc 1) (f sc 4))) sc 1 = f sc 1 := by simp [sv_u]
  have x5 : (sv_u f sc 4 (sp_lt (f tx) (f sc 1) (f sc 4))) sc 5 = f sc 5 := by simp [sv_u]
  have xt : (sv_u f sc 4 (sp_lt (f tx) (f sc 1) (f sc 4))) tx = f tx := sv_u_ne hne
  have hwb : -1 ≤ (sp_wo (f tx) (f sc 4) (sp_lt (f tx) (f sc 1) (f sc 4))) ∧ (sp_wo (f tx) (f sc 4) (sp_lt (f tx) (f sc 1) (f sc 4))) ≤ 4 := by unfold sp_wo; repeat' split <;> omega
  have g36 : sv_T X (sv_rm 6 0 0) MX3_takeWord (sv_Zm X 0 0 (sv_qi (fun a f' => a = (sp_wo (f tx) (f sc 4) (sp_lt (f tx) (f sc 1) (f sc 4))) ∧ f' = if (sp_wo (f tx) (f sc 4) (sp_lt (f tx) (f sc 1) (f sc 4))) = -1 then sv_u (sv_u f sc 4 (sp_lt (f tx) (f sc 1) (f sc 4))) sc 5 (if f sc 5 = -1 then f sc 4 else f sc 5) else (sv_u f sc 4 (sp_lt (f tx) (f sc 1) (f sc 4)))) S r g)) 0 0 36 [some (sv_r sc), some (sv_i (f sc 4)), none] [] S ((sv_u f sc 4 (sp_lt (f tx) (f sc 1) (f sc 4)))) r g := by
    refine sv_fr fun hin1 => ?_
    refine sv_aload_n (i := 0) dX3_takeWord_36 rfl rfl ?_
    refine sv_iload_n (i := 1) dX3_takeWord_37 rfl rfl ?_
    refine sv_vp0 (As := [_]) clX3_89 dX3_takeWord_38 ⟨_, rfl, rfl⟩ (by decide) rfl (Nat.le_of_ble_eq_true rfl) (by decide) (by decide) hsc.lt hsc.k (c_X3_wordAt (f := (sv_u f sc 4 (sp_lt (f tx) (f sc 1) (f sc 4)))) hsc (by rw [x4, x1]; omega) (by rw [x1]; exact h10) _ (by rw [x4]; omega)) ?_
    rw [x4, xt]
    refine sv_istore_n (i := 2) dX3_takeWord_41 rfl (by decide) rfl ?_
    refine sv_iload_n (i := 2) dX3_takeWord_42 rfl rfl ?_
    refine sv_iconst dX3_takeWord_43 ?_
    refine sv_icmp_ne (tgt := 52) dX3_takeWord_44 (by decide) (by unfold sv_in; omega) (by decide) (fun h_44 => ?_) (fun h_44 => ?_)
    · refine sv_iload_n (i := 2) dX3_takeWord_52 rfl rfl ?_
      refine sv_ireturn dX3_takeWord_53 rfl ?_
      first
      | exact ⟨_, rfl, rfl, rfl, rfl, rfl, by rw [if_pos (by assumption), hf2, x5]⟩
      | exact ⟨_, rfl, rfl, rfl, rfl, rfl, by rw [if_neg (by assumption)]⟩
    · refine sv_aload_n (i := 0) dX3_takeWord_47 rfl rfl ?_
      refine sv_iload_n (i := 1) dX3_takeWord_48 rfl rfl ?_
      refine sv_vv0 (As := [_]) clX3_92 dX3_takeWord_49 ⟨_, rfl, rfl⟩ (by decide) rfl (Nat.le_of_ble_eq_true rfl) (by decide) (by decide) hsc.lt hsc.k (c_X3_failAt (f := (sv_u f sc 4 (sp_lt (f tx) (f sc 1) (f sc 4)))) hsc _ (by unfold sv_in; omega)) (fun f2 hf2 => ?_)
      refine sv_iload_n (i := 2) dX3_takeWord_52 rfl rfl ?_
      refine sv_ireturn dX3_takeWord_53 rfl ?_
      first
      | exact ⟨_, rfl, rfl, rfl, rfl, rfl, by rw [if_pos (by assumption), hf2, x5]⟩
      | exact ⟨_, rfl, rfl, rfl, rfl, rfl, by rw [if_neg (by assumption)]⟩
  have lp : ∀ (kk : Nat) (f1 : sv_F), f1 sc 1 - f1 sc 4 < (kk : Int) → (0 ≤ f1 sc 4 ∧ f1 sc 4 ≤ f1 sc 1) → (f1 sc 1 ≤ 80) → (sv_u f1 sc 4 (sp_lt (f1 tx) (f1 sc 1) (f1 sc 4)) = sv_u f sc 4 (sp_lt (f tx) (f sc 1) (f sc 4))) → sv_T X (sv_rm 6 0 0) MX3_takeWord (sv_Zm X 0 0 (sv_qi (fun a f' => a = (sp_wo (f tx) (f sc 4) (sp_lt (f tx) (f sc 1) (f sc 4))) ∧ f' = if (sp_wo (f tx) (f sc 4) (sp_lt (f tx) (f sc 1) (f sc 4))) = -1 then sv_u (sv_u f sc 4 (sp_lt (f tx) (f sc 1) (f sc 4))) sc 5 (if f sc 5 = -1 then f sc 4 else f sc 5) else (sv_u f sc 4 (sp_lt (f tx) (f sc 1) (f sc 4)))) S r g)) 0 0 5 [some (sv_r sc), some (sv_i (f sc 4)), none] [] S (f1) r g := by
    intro kk
    induction kk with
    | zero =>
      intro f1 hkk h1 h2 h3
      exact absurd hkk (by omega)
    | succ kk ih =>
      intro f1 hkk h1 h2 h3
      refine sv_fr fun hin1 => ?_
      refine sv_aload_n (i := 0) dX3_takeWord_5 rfl rfl ?_
      refine sv_getI (kz := 4) flX3_25 dX3_takeWord_6 rfl rfl hsc.lt hsc.k ?_
      refine sv_aload_n (i := 0) dX3_takeWord_9 rfl rfl ?_
      refine sv_getI (kz := 1) flX3_15 dX3_takeWord_10 rfl rfl hsc.lt hsc.k ?_
      refine sv_icmp_ge (tgt := 36) dX3_takeWord_13 (by decide) (by first | omega | exact hin _ _ | decide | (simp [sv_u, sv_row]; omega) | (simp [sv_u, sv_row]; exact hin _ _) | exact hin1 _ _ | (simp [sv_u, sv_row]; exact hin1 _ _)) (by first | omega | exact hin _ _ | decide | (simp [sv_u, sv_row]; omega) | (simp [sv_u, sv_row]; exact hin _ _) | exact hin1 _ _ | (simp [sv_u, sv_row]; exact hin1 _ _)) (fun h_13 => ?_) (fun h_13 => ?_)
      · have he : f1 = (sv_u f sc 4 (sp_lt (f tx) (f sc 1) (f sc 4))) := by
          rw [← h3, sp_lt_end ?_]
          · exact sv_u_self rfl
          · first | assumption | (unfold sp_nx; rw [if_neg (by omega)]; omega)
        subst he
        exact g36
      · refine sv_aload_n (i := 0) dX3_takeWord_16 rfl rfl ?_
        refine sv_vp0 (As := []) clX3_85 dX3_takeWord_17 ⟨_, rfl, rfl⟩ (by decide) rfl (Nat.le_of_ble_eq_true rfl) (by decide) (by decide) hsc.lt hsc.k (c_X3_isLetterNext (f := f1) hsc (by omega) (by omega)) ?_
        refine sv_bif_eq (tgt := 36) dX3_takeWord_20 (by decide) (fun h_20 => ?_) (fun h_20 => ?_)
        · have he : f1 = (sv_u f sc 4 (sp_lt (f tx) (f sc 1) (f sc 4))) := by
            rw [← h3, sp_lt_end ?_]
            · exact sv_u_self rfl
            · first | assumption | (unfold sp_nx; rw [if_neg (by omega)]; omega)
          subst he
          exact g36
        · refine sv_aload_n (i := 0) dX3_takeWord_23 rfl rfl ?_
          refine sv_dup dX3_takeWord_24 rfl ?_
          refine sv_getI (kz := 4) flX3_25 dX3_takeWord_25 rfl rfl hsc.lt hsc.k ?_
          refine sv_iconst dX3_takeWord_28 ?_
          refine sv_iadd dX3_takeWord_29 ?_
          refine sv_putI (kz := 4) flX3_25 dX3_takeWord_30 (Or.inl rfl) rfl rfl hsc.lt hsc.k (by first | omega | exact hin _ _ | decide | (simp [sv_u, sv_row]; omega) | (simp [sv_u, sv_row]; exact hin _ _) | exact hin1 _ _ | (simp [sv_u, sv_row]; exact hin1 _ _)) ?_
          refine sv_goto (tgt := 5) dX3_takeWord_33 (by decide) ?_
          refine ih _ (by simp [sv_u]; omega) (by simp [sv_u]; omega) (by simp [sv_u]; omega) ?_
          rw [← h3, sp_lt_on h_20, sv_u_ne hne, show sv_u f1 sc 4 (f1 sc 4 + 1) sc 1 = f1 sc 1 by simp [sv_u], show sv_u f1 sc 4 (f1 sc 4 + 1) sc 4 = f1 sc 4 + 1 by simp [sv_u], sv_u_u]
  refine sv_aload_n (i := 0) dX3_takeWord_0 rfl rfl ?_
  refine sv_getI (kz := 4) flX3_25 dX3_takeWord_1 rfl rfl hsc.lt hsc.k ?_
  refine sv_istore_n (i := 1) dX3_takeWord_4 rfl (by decide) rfl ?_
  exact lp (f sc 1 + 1).toNat f (by omega) h11 h10 rfl
