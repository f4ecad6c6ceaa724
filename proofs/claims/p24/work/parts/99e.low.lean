set_option maxRecDepth 100000 in
set_option maxHeartbeats 4000000 in
theorem c_L_cell {X : sv_X} {S : sv_S} {f : sv_F} {r : sv_R} {g : sv_G} {k : Int} (hL : X.2.2.2.1.2.1 ≤ 2048) (hk : 0 ≤ k ∧ k ≤ 1000) : sv_C X 0 ML_cell 0 0 [sv_w X.2.2.2.1.1, sv_i k] S f r g (sv_qi (fun a f' => sv_in a ∧ f' = f) S r g) := by
  refine sv_met (by decide) (by simp [lg_sl, sv_cv, va_rf, Value.category]) ?_
  refine sv_iload_n (i := 1) dL_cell_0 rfl rfl ?_
  refine sv_wload_n (i := 0) dL_cell_1 rfl rfl ?_
  refine sv_slen dL_cell_2 ?_
  refine sv_icmp_ge (tgt := 12) dL_cell_3 (by decide) (by unfold sv_in; omega) (by unfold sv_in; omega) (fun h_3 => ?_) (fun h_3 => ?_)
  · refine sv_ldc (n := 1013904223) dL_cell_12 (List.mem_of_getElem? (i := 367) (by decide +kernel)) ?_
    refine sv_iload_n (i := 1) dL_cell_14 rfl rfl ?_
    refine sv_iconst dL_cell_15 ?_
    refine sv_iadd dL_cell_16 ?_
    refine sv_imul dL_cell_17 ?_
    refine sv_any fun z hz => ?_
    refine sv_ireturn dL_cell_18 rfl ?_
    exact ⟨_, rfl, rfl, rfl, rfl, hz, rfl⟩
  · refine sv_wload_n (i := 0) dL_cell_6 rfl rfl ?_
    refine sv_iload_n (i := 1) dL_cell_7 rfl rfl ?_
    refine sv_sld (by omega) dL_cell_8 ?_
    refine sv_goto (tgt := 18) dL_cell_9 (by decide) ?_
    refine sv_any fun z hz => ?_
    refine sv_ireturn dL_cell_18 rfl ?_
    exact ⟨_, rfl, rfl, rfl, rfl, hz, rfl⟩
set_option maxRecDepth 100000 in
set_option maxHeartbeats 4000000 in
theorem c_L_low {X : sv_X} {S : sv_S} {f : sv_F} {r : sv_R} {g : sv_G} {v n : Int} (hn : 1 ≤ n ∧ n ≤ 2147483647) : sv_C X 0 ML_low 0 0 [sv_i v, sv_i n] S f r g (sv_qi (fun a f' => (0 ≤ a ∧ a < n) ∧ f' = f) S r g) := by
  refine sv_met (by decide) (by simp [lg_sl, sv_cv, va_rf, Value.category]) ?_
  refine sv_iload_n (i := 0) dL_low_0 rfl rfl ?_
  refine sv_ldc (n := 2147483647) dL_low_1 (List.mem_of_getElem? (i := 371) (by decide +kernel)) ?_
  refine sv_iandM dL_low_3 (fun z_3 hz_3 => ?_)
  refine sv_iload_n (i := 1) dL_low_4 rfl rfl ?_
  refine sv_irem dL_low_5 (by omega) (by omega) ?_
  refine sv_ireturn dL_low_6 rfl ?_
  exact ⟨_, rfl, rfl, rfl, rfl, ⟨Int.emod_nonneg _ (by omega), Int.emod_lt_of_pos _ (by omega)⟩, rfl⟩
set_option maxRecDepth 100000 in
set_option maxHeartbeats 4000000 in
theorem c_L_begins {X : sv_X} {S : sv_S} {f : sv_F} {r : sv_R} {g : sv_G} {a n : Nat} (ha : a < S.1 ∧ S.2 a = (6, n)) (hn : 17 ≤ n) : sv_C X 0 ML_begins 0 0 [sv_r a] S f r g (sv_qv (fun f' => f' = sv_u (sv_u (sv_u (sv_u f a 12 1) a 13 (-1)) a 14 4) a 15 1) S r g) := by
  refine sv_met (by decide) (by simp [lg_sl, sv_cv, va_rf, Value.category]) ?_
  refine sv_aload_n (i := 0) dL_begins_0 rfl rfl ?_
  refine sv_bipush dL_begins_1 (by decide) ?_
  refine sv_iconst dL_begins_3 ?_
  refine sv_iast dL_begins_4 ha.1 ha.2 (by omega) (by decide) ?_
  refine sv_aload_n (i := 0) dL_begins_5 rfl rfl ?_
  refine sv_bipush dL_begins_6 (by decide) ?_
  refine sv_iconst dL_begins_8 ?_
  refine sv_iast dL_begins_9 ha.1 ha.2 (by omega) (by decide) ?_
  refine sv_aload_n (i := 0) dL_begins_10 rfl rfl ?_
  refine sv_bipush dL_begins_11 (by decide) ?_
  refine sv_iconst dL_begins_13 ?_
  refine sv_iast dL_begins_14 ha.1 ha.2 (by omega) (by decide) ?_
  refine sv_aload_n (i := 0) dL_begins_15 rfl rfl ?_
  refine sv_bipush dL_begins_16 (by decide) ?_
  refine sv_iconst dL_begins_18 ?_
  refine sv_iast dL_begins_19 ha.1 ha.2 (by omega) (by decide) ?_
  refine sv_return dL_begins_20 rfl ?_
  exact ⟨rfl, rfl, rfl, rfl, rfl⟩
set_option maxRecDepth 100000 in
set_option maxHeartbeats 4000000 in
theorem c_L_many {X : sv_X} {S : sv_S} {f : sv_F} {r : sv_R} {g : sv_G} {F : Int} (hF : 1 ≤ F ∧ F ≤ 3) : sv_C X 0 ML_many 0 0 [sv_i F] S f r g (sv_qp (some (sv_i (6 + 2 * F))) S f r g) := by
  refine sv_met (by decide) (by simp [lg_sl, sv_cv, va_rf, Value.category]) ?_
  refine sv_iload_n (i := 0) dL_many_0 rfl rfl ?_
  refine sv_iconst dL_many_1 ?_
  refine sv_icmp_ne (tgt := 10) dL_many_2 (by decide) (by first | omega | exact hin _ _ | decide | (simp [sv_u, sv_row]; omega) | (simp [sv_u, sv_row]; exact hin _ _) | exact hin1 _ _ | (simp [sv_u, sv_row]; exact hin1 _ _)) (by first | omega | exact hin _ _ | decide | (simp [sv_u, sv_row]; omega) | (simp [sv_u, sv_row]; exact hin _ _) | exact hin1 _ _ | (simp [sv_u, sv_row]; exact hin1 _ _)) (fun h_2 => ?_) (fun h_2 => ?_)
  · refine sv_iload_n (i := 0) dL_many_10 rfl rfl ?_
    refine sv_iconst dL_many_11 ?_
    refine sv_icmp_ne (tgt := 20) dL_many_12 (by decide) (by first | omega | exact hin _ _ | decide | (simp [sv_u, sv_row]; omega) | (simp [sv_u, sv_row]; exact hin _ _) | exact hin1 _ _ | (simp [sv_u, sv_row]; exact hin1 _ _)) (by first | omega | exact hin _ _ | decide | (simp [sv_u, sv_row]; omega) | (simp [sv_u, sv_row]; exact hin _ _) | exact hin1 _ _ | (simp [sv_u, sv_row]; exact hin1 _ _)) (fun h_12 => ?_) (fun h_12 => ?_)
    · refine sv_bipush dL_many_20 (by decide) ?_
      refine sv_ireturn dL_many_22 rfl ?_
      exact ⟨congrArg (fun z => some (sv_i z)) (by omega), rfl, rfl, rfl, rfl⟩
    · refine sv_bipush dL_many_15 (by decide) ?_
      refine sv_goto (tgt := 22) dL_many_17 (by decide) ?_
      refine sv_ireturn dL_many_22 rfl ?_
      exact ⟨congrArg (fun z => some (sv_i z)) (by omega), rfl, rfl, rfl, rfl⟩
  · refine sv_bipush dL_many_5 (by decide) ?_
    refine sv_goto (tgt := 22) dL_many_7 (by decide) ?_
    refine sv_ireturn dL_many_22 rfl ?_
    exact ⟨congrArg (fun z => some (sv_i z)) (by omega), rfl, rfl, rfl, rfl⟩
set_option maxRecDepth 100000 in
set_option maxHeartbeats 4000000 in
theorem c_L_raises {X : sv_X} {S : sv_S} {f : sv_F} {r : sv_R} {g : sv_G} {a n : Nat} (ha : a < S.1 ∧ S.2 a = (6, n)) (hn : 13 ≤ n) (hf : 1 ≤ f a 12 ∧ f a 12 ≤ 2) (hok : sp_ok (f a) (6 + 2 * f a 12)) : sv_C X 0 ML_raises 0 0 [sv_r a] S f r g (sv_qv (fun f' => f' = sv_row f a (lw_up (f a))) S r g) := by
  refine sv_met (by decide) (by simp [lg_sl, sv_cv, va_rf, Value.category]) ?_
  refine sv_fr fun hin => ?_
  have a0 := hok 0 (by omega) (by omega)
  have a1 := hok 1 (by omega) (by omega)
  have a2 := hok 2 (by omega) (by omega)
  have a4 := hok 4 (by omega) (by omega)
  have a7 := hok 7 (by omega) (by omega)
  have a9 : ¬ f a 12 = 1 → 0 ≤ f a 9 ∧ f a 9 ≤ 99 := fun e => hok 9 (by omega) (by omega)
  refine sv_aload_n (i := 0) dL_raises_0 rfl rfl ?_
  refine sv_bipush dL_raises_1 (by decide) ?_
  refine sv_iald dL_raises_3 ha.1 ha.2 (by omega) ?_
  refine sv_iconst dL_raises_4 ?_
  refine sv_icmp_ne (tgt := 38) dL_raises_5 (by decide) (by first | omega | exact hin _ _ | decide | (simp [sv_u, sv_row]; omega) | (simp [sv_u, sv_row]; exact hin _ _) | exact hin1 _ _ | (simp [sv_u, sv_row]; exact hin1 _ _)) (by first | omega | exact hin _ _ | decide | (simp [sv_u, sv_row]; omega) | (simp [sv_u, sv_row]; exact hin _ _) | exact hin1 _ _ | (simp [sv_u, sv_row]; exact hin1 _ _)) (fun h_5 => ?_) (fun h_5 => ?_)
  · refine sv_aload_n (i := 0) dL_raises_38 rfl rfl ?_
    refine sv_iconst dL_raises_39 ?_
    refine sv_iald dL_raises_40 ha.1 ha.2 (by omega) ?_
    refine sv_istore_n (i := 1) dL_raises_41 rfl (by decide) rfl ?_
    refine sv_aload_n (i := 0) dL_raises_42 rfl rfl ?_
    refine sv_iconst dL_raises_43 ?_
    refine sv_aload_n (i := 0) dL_raises_44 rfl rfl ?_
    refine sv_iconst dL_raises_45 ?_
    refine sv_iald dL_raises_46 ha.1 ha.2 (by omega) ?_
    refine sv_iast dL_raises_47 ha.1 ha.2 (by omega) (by omega) ?_
    refine sv_aload_n (i := 0) dL_raises_48 rfl rfl ?_
    refine sv_iconst dL_raises_49 ?_
    refine sv_iload_n (i := 1) dL_raises_50 rfl rfl ?_
    refine sv_iast dL_raises_51 ha.1 ha.2 (by omega) (by omega) ?_
    refine sv_aload_n (i := 0) dL_raises_52 rfl rfl ?_
    refine sv_bipush dL_raises_53 (by decide) ?_
    refine sv_aload_n (i := 0) dL_raises_55 rfl rfl ?_
    refine sv_bipush dL_raises_56 (by decide) ?_
    refine sv_iald dL_raises_58 ha.1 ha.2 (by omega) ?_
    refine sv_bipush dL_raises_59 (by decide) ?_
    refine sv_icmp_le (tgt := 69) dL_raises_61 (by decide) (by simp only [sv_u]; grind) (by decide) (fun h_61 => ?_) (fun h_61 => ?_)
    · have h61 : f a 9 ≤ 49 := by simpa [sv_u] using h_61
      refine sv_aload_n (i := 0) dL_raises_69 rfl rfl ?_
      refine sv_bipush dL_raises_70 (by decide) ?_
      refine sv_iald dL_raises_72 ha.1 ha.2 (by omega) ?_
      refine sv_aload_n (i := 0) dL_raises_73 rfl rfl ?_
      refine sv_bipush dL_raises_74 (by decide) ?_
      refine sv_iald dL_raises_76 ha.1 ha.2 (by omega) ?_
      refine sv_iadd dL_raises_77 ?_
      refine sv_iast dL_raises_78 ha.1 ha.2 (by omega) (by first | decide | (simp only [sv_u]; grind)) ?_
      refine sv_aload_n (i := 0) dL_raises_79 rfl rfl ?_
      refine sv_bipush dL_raises_80 (by decide) ?_
      refine sv_bipush dL_raises_82 (by decide) ?_
      refine sv_iast dL_raises_84 ha.1 ha.2 (by omega) (by decide) ?_
      refine sv_aload_n (i := 0) dL_raises_85 rfl rfl ?_
      refine sv_bipush dL_raises_86 (by decide) ?_
      refine sv_dup2 dL_raises_88 rfl rfl ?_
      refine sv_iald dL_raises_89 ha.1 ha.2 (by omega) ?_
      refine sv_iconst dL_raises_90 ?_
      refine sv_iadd dL_raises_91 ?_
      refine sv_iast dL_raises_92 ha.1 ha.2 (by omega) (by simp only [sv_u]; grind) ?_
      refine sv_return dL_raises_93 rfl ?_
      refine ⟨rfl, rfl, rfl, rfl, ?_⟩
      funext x y
      by_cases e : x = a
      · subst e
        unfold sv_row lw_up sp_r1 sp_r2
        simp only [sv_u]
        grind
      · simp only [sv_u, sv_row, e, false_and, if_false]
    · have h61 : 49 < f a 9 := by simpa [sv_u] using h_61
      refine sv_bipush dL_raises_64 (by decide) ?_
      refine sv_goto (tgt := 78) dL_raises_66 (by decide) ?_
      refine sv_iast dL_raises_78 ha.1 ha.2 (by omega) (by first | decide | (simp only [sv_u]; grind)) ?_
      refine sv_aload_n (i := 0) dL_raises_79 rfl rfl ?_
      refine sv_bipush dL_raises_80 (by decide) ?_
      refine sv_bipush dL_raises_82 (by decide) ?_
      refine sv_iast dL_raises_84 ha.1 ha.2 (by omega) (by decide) ?_
      refine sv_aload_n (i := 0) dL_raises_85 rfl rfl ?_
      refine sv_bipush dL_raises_86 (by decide) ?_
      refine sv_dup2 dL_raises_88 rfl rfl ?_
      refine sv_iald dL_raises_89 ha.1 ha.2 (by omega) ?_
      refine sv_iconst dL_raises_90 ?_
      refine sv_iadd dL_raises_91 ?_
      refine sv_iast dL_raises_92 ha.1 ha.2 (by omega) (by simp only [sv_u]; grind) ?_
      refine sv_return dL_raises_93 rfl ?_
      refine ⟨rfl, rfl, rfl, rfl, ?_⟩
      funext x y
      by_cases e : x = a
      · subst e
        unfold sv_row lw_up sp_r1 sp_r2
        simp only [sv_u]
        grind
      · simp only [sv_u, sv_row, e, false_and, if_false]
  · refine sv_aload_n (i := 0) dL_raises_8 rfl rfl ?_
    refine sv_iconst dL_raises_9 ?_
    refine sv_iald dL_raises_10 ha.1 ha.2 (by omega) ?_
    refine sv_aload_n (i := 0) dL_raises_11 rfl rfl ?_
    refine sv_iconst dL_raises_12 ?_
    refine sv_iald dL_raises_13 ha.1 ha.2 (by omega) ?_
    refine sv_iadd dL_raises_14 ?_
    refine sv_aload_n (i := 0) dL_raises_15 rfl rfl ?_
    refine sv_iconst dL_raises_16 ?_
    refine sv_iald dL_raises_17 ha.1 ha.2 (by omega) ?_
    refine sv_iadd dL_raises_18 ?_
    refine sv_istore_n (i := 1) dL_raises_19 rfl (by decide) rfl ?_
    refine sv_aload_n (i := 0) dL_raises_20 rfl rfl ?_
    refine sv_bipush dL_raises_21 (by decide) ?_
    refine sv_iload_n (i := 1) dL_raises_23 rfl rfl ?_
    refine sv_iconst dL_raises_24 ?_
    refine sv_idiv dL_raises_25 (by omega) (by decide) ?_
    refine sv_iast dL_raises_26 ha.1 ha.2 (by omega) (by omega) ?_
    refine sv_aload_n (i := 0) dL_raises_27 rfl rfl ?_
    refine sv_bipush dL_raises_28 (by decide) ?_
    refine sv_aload_n (i := 0) dL_raises_30 rfl rfl ?_
    refine sv_bipush dL_raises_31 (by decide) ?_
    refine sv_iald dL_raises_33 ha.1 ha.2 (by omega) ?_
    refine sv_iast dL_raises_34 ha.1 ha.2 (by omega) (by simp only [sv_u]; grind) ?_
    refine sv_goto (tgt := 85) dL_raises_35 (by decide) ?_
    refine sv_aload_n (i := 0) dL_raises_85 rfl rfl ?_
    refine sv_bipush dL_raises_86 (by decide) ?_
    refine sv_dup2 dL_raises_88 rfl rfl ?_
    refine sv_iald dL_raises_89 ha.1 ha.2 (by omega) ?_
    refine sv_iconst dL_raises_90 ?_
    refine sv_iadd dL_raises_91 ?_
    refine sv_iast dL_raises_92 ha.1 ha.2 (by omega) (by simp only [sv_u]; grind) ?_
    refine sv_return dL_raises_93 rfl ?_
    refine ⟨rfl, rfl, rfl, rfl, ?_⟩
    funext x y
    by_cases e : x = a
    · subst e
      unfold sv_row lw_up sp_r1 sp_r2
      simp only [sv_u]
      grind
    · simp only [sv_u, sv_row, e, false_and, if_false]
set_option maxRecDepth 100000 in
set_option maxHeartbeats 4000000 in
theorem c_L_sum {X : sv_X} {S : sv_S} {f : sv_F} {r : sv_R} {g : sv_G} {a n : Nat} (ha : a < S.1 ∧ S.2 a = (6, n)) (hn : 13 ≤ n) (hf : 1 ≤ f a 12 ∧ f a 12 ≤ 3) (hok : sp_ok (f a) (6 + 2 * f a 12)) : sv_C X 1 ML_sum 0 0 [sv_r a] S f r g (sv_qp (some (sv_i (sp_sm (f a) (6 + 2 * f a 12).toNat))) S f r g) := by
  refine sv_met (by decide) (by simp [lg_sl, sv_cv, va_rf, Value.category]) ?_
  refine sv_fr fun hin => ?_
  have lp : ∀ (kk : Nat) (s : Nat), 6 + 2 * f a 12 - (s : Int) < (kk : Int) → ((s : Int) ≤ 6 + 2 * f a 12) → sv_T X (sv_rm 1 0 0) ML_sum (sv_Zm X 0 0 (sv_qp (some (sv_i (sp_sm (f a) (6 + 2 * f a 12).toNat))) S f r g)) 0 0 5 [some (sv_r a), some (sv_i (sp_sm (f a) s)), some (sv_i (s : Nat))] [] S (f) r g := by
    intro kk
    induction kk with
    | zero =>
      intro s hkk h1
      exact absurd hkk (by omega)
    | succ kk ih =>
      intro s hkk h1
      refine sv_iload_n (i := 2) dL_sum_5 rfl rfl ?_
      refine sv_aload_n (i := 0) dL_sum_6 rfl rfl ?_
      refine sv_bipush dL_sum_7 (by decide) ?_
      refine sv_iald dL_sum_9 ha.1 ha.2 (by omega) ?_
      refine sv_sp0 (As := [_]) clL_11 dL_sum_10 rfl (Nat.le_of_ble_eq_true rfl) (by decide) (by decide) (c_L_many (by omega)) ?_
      refine sv_icmp_ge (tgt := 35) dL_sum_13 (by decide) (by first | omega | exact hin _ _ | decide | (simp [sv_u, sv_row]; omega) | (simp [sv_u, sv_row]; exact hin _ _) | exact hin1 _ _ | (simp [sv_u, sv_row]; exact hin1 _ _)) (by first | omega | exact hin _ _ | decide | (simp [sv_u, sv_row]; omega) | (simp [sv_u, sv_row]; exact hin _ _) | exact hin1 _ _ | (simp [sv_u, sv_row]; exact hin1 _ _)) (fun h_13 => ?_) (fun h_13 => ?_)
      · refine sv_iload_n (i := 1) dL_sum_35 rfl rfl ?_
        refine sv_ireturn dL_sum_36 rfl ?_
        exact ⟨by rw [show (6 + 2 * f a 12).toNat = s by omega], rfl, rfl, rfl, rfl⟩
      · have a1 := hok s (by omega) (by omega)
        have b1 := sp_sm_in (f a) s
        refine sv_bipush dL_sum_16 (by decide) ?_
        refine sv_iload_n (i := 1) dL_sum_18 rfl rfl ?_
        refine sv_imul dL_sum_19 ?_
        refine sv_aload_n (i := 0) dL_sum_20 rfl rfl ?_
        refine sv_iload_n (i := 2) dL_sum_21 rfl rfl ?_
        refine sv_iald dL_sum_22 ha.1 ha.2 (by omega) ?_
        refine sv_iadd dL_sum_23 ?_
        refine sv_sipush dL_sum_24 (by decide) ?_
        refine sv_irem dL_sum_27 (by omega) (by decide) ?_
        refine sv_istore_n (i := 1) dL_sum_28 rfl (by decide) rfl ?_
        refine sv_iinc dL_sum_29 rfl (by decide) rfl ?_
        refine sv_goto (tgt := 5) dL_sum_32 (by decide) ?_
        exact sv_cast (ih (s + 1) (by omega) (by omega)) rfl rfl rfl rfl rfl rfl
  refine sv_bipush dL_sum_0 (by decide) ?_
  refine sv_istore_n (i := 1) dL_sum_2 rfl (by decide) rfl ?_
  refine sv_iconst dL_sum_3 ?_
  refine sv_istore_n (i := 2) dL_sum_4 rfl (by decide) rfl ?_
  exact lp (6 + 2 * f a 12 + 1).toNat 0 (by omega) (by omega)
set_option maxRecDepth 100000 in
set_option maxHeartbeats 4000000 in
theorem c_L_packed {X : sv_X} {S : sv_S} {f : sv_F} {r : sv_R} {g : sv_G} {b : Nat} {k i : Int} (hb : b < S.1 ∧ S.2 b = (6, 64)) (hk : 0 ≤ k ∧ k < 8) (hi : 0 ≤ i ∧ i < 12) (hq : 0 ≤ f b (8 * k + 5 + i / 4) ∧ f b (8 * k + 5 + i / 4) < 268435456) : sv_C X 0 ML_packed 0 0 [sv_r b, sv_i k, sv_i i] S f r g (sv_qp (some (sv_i (lw_k (f b) k i))) S f r g) := by
  refine sv_met (by decide) (by simp [lg_sl, sv_cv, va_rf, Value.category]) ?_
  refine sv_fr fun hin => ?_
  have hz : 0 ≤ f b (8 * k + 5 + i / 4) / lw_p (i % 4) ∧ f b (8 * k + 5 + i / 4) / lw_p (i % 4) ≤ f b (8 * k + 5 + i / 4) := ⟨Int.ediv_nonneg hq.1 (by have := lw_p_pos (i % 4); omega), Int.ediv_le_self _ hq.1⟩
  refine sv_aload_n (i := 0) dL_packed_0 rfl rfl ?_
  refine sv_bipush dL_packed_1 (by decide) ?_
  refine sv_iload_n (i := 1) dL_packed_3 rfl rfl ?_
  refine sv_imul dL_packed_4 ?_
  refine sv_iconst dL_packed_5 ?_
  refine sv_iadd dL_packed_6 ?_
  refine sv_iload_n (i := 2) dL_packed_7 rfl rfl ?_
  refine sv_iconst dL_packed_8 ?_
  refine sv_idiv dL_packed_9 (by omega) (by decide) ?_
  refine sv_iadd dL_packed_10 ?_
  refine sv_iald dL_packed_11 hb.1 hb.2 (by omega) ?_
  refine sv_bipush dL_packed_12 (by decide) ?_
  refine sv_iload_n (i := 2) dL_packed_14 rfl rfl ?_
  refine sv_iconst dL_packed_15 ?_
  refine sv_irem dL_packed_16 (by omega) (by decide) ?_
  refine sv_imul dL_packed_17 ?_
  refine sv_ishr dL_packed_18 (bz_vshr (by omega) hq.1 (by omega)) ?_
  refine sv_bipush dL_packed_19 (by decide) ?_
  refine sv_iand dL_packed_21 (bz_and127 hz.1 (by omega)) ?_
  refine sv_ireturn dL_packed_22 rfl ?_
  exact ⟨rfl, rfl, rfl, rfl, rfl⟩
set_option maxRecDepth 100000 in
set_option maxHeartbeats 4000000 in
theorem c_L_packs {X : sv_X} {S : sv_S} {f : sv_F} {r : sv_R} {g : sv_G} {b : Nat} {k i v : Int} (hb : b < S.1 ∧ S.2 b = (6, 64)) (hk : 0 ≤ k ∧ k < 8) (hi : 0 ≤ i ∧ i < 12) (hv : 0 ≤ v ∧ v ≤ 127) (hq : 0 ≤ f b (8 * k + 5 + i / 4) ∧ f b (8 * k + 5 + i / 4) < lw_p (i % 4)) : sv_C X 0 ML_packs 0 0 [sv_r b, sv_i k, sv_i i, sv_i v] S f r g (sv_qv (fun f' => f' = sv_u f b (8 * k + 5 + i / 4) (f b (8 * k + 5 + i / 4) + v * lw_p (i % 4))) S r g) := by
  refine sv_met (by decide) (by simp [lg_sl, sv_cv, va_rf, Value.category]) ?_
  refine sv_fr fun hin => ?_
  have ht : 0 ≤ i % 4 ∧ i % 4 < 4 := by omega
  refine sv_bipush dL_packs_0 (by decide) ?_
  refine sv_iload_n (i := 1) dL_packs_2 rfl rfl ?_
  refine sv_imul dL_packs_3 ?_
  refine sv_iconst dL_packs_4 ?_
  refine sv_iadd dL_packs_5 ?_
  refine sv_iload_n (i := 2) dL_packs_6 rfl rfl ?_
  refine sv_iconst dL_packs_7 ?_
  refine sv_idiv dL_packs_8 (by omega) (by decide) ?_
  refine sv_iadd dL_packs_9 ?_
  refine sv_istore dL_packs_10 (by decide) rfl ?_
  refine sv_aload_n (i := 0) dL_packs_12 rfl rfl ?_
  refine sv_iload dL_packs_13 rfl ?_
  refine sv_aload_n (i := 0) dL_packs_15 rfl rfl ?_
  refine sv_iload dL_packs_16 rfl ?_
  refine sv_iald dL_packs_18 hb.1 hb.2 (by omega) ?_
  refine sv_bipush dL_packs_19 (by decide) ?_
  refine sv_bipush dL_packs_21 (by decide) ?_
  refine sv_iload_n (i := 2) dL_packs_23 rfl rfl ?_
  refine sv_iconst dL_packs_24 ?_
  refine sv_irem dL_packs_25 (by omega) (by decide) ?_
  refine sv_imul dL_packs_26 ?_
  refine sv_ishl dL_packs_27 (bz_m127 ht) ?_
  refine sv_iconst dL_packs_28 ?_
  refine sv_ixor dL_packs_29 (bz_mnot ht) ?_
  refine sv_iand dL_packs_30 (bz_clr ht hq.1 hq.2) ?_
  refine sv_iload_n (i := 3) dL_packs_31 rfl rfl ?_
  refine sv_bipush dL_packs_32 (by decide) ?_
  refine sv_iload_n (i := 2) dL_packs_34 rfl rfl ?_
  refine sv_iconst dL_packs_35 ?_
  refine sv_irem dL_packs_36 (by omega) (by decide) ?_
  refine sv_imul dL_packs_37 ?_
  refine sv_ishl dL_packs_38 (bz_vshl ht hv.1 hv.2) ?_
  refine sv_ior dL_packs_39 (bz_vor ht hq.1 hq.2 hv.1 hv.2) ?_
  refine sv_iast dL_packs_40 hb.1 hb.2 (by omega) (by have h1 := lw_p_pos (i % 4); have h2 : v * lw_p (i % 4) ≤ 127 * lw_p (i % 4) := Int.mul_le_mul_of_nonneg_right hv.2 (by omega); have h3 : 0 ≤ v * lw_p (i % 4) := Int.mul_nonneg hv.1 (by omega); unfold sv_in; omega) ?_
  refine sv_return dL_packs_41 rfl ?_
  exact ⟨rfl, rfl, rfl, rfl, rfl⟩
set_option maxRecDepth 100000 in
set_option maxHeartbeats 4000000 in
theorem c_L_links {X : sv_X} {S : sv_S} {f : sv_F} {r : sv_R} {g : sv_G} {b : Nat} {m : Int → Int} (hb : b < S.1 ∧ S.2 b = (6, 64)) (hw : sp_wt m) (hq : lw_q (f b) m) {k : Int} (hk : 0 ≤ k ∧ k < m 580) : sv_C X 0 ML_links 0 0 [sv_r b, sv_i k] S f r g (sv_qp (some (sv_i (sp_lk m k))) S f r g) := by
  refine sv_met (by decide) (by simp [lg_sl, sv_cv, va_rf, Value.category]) ?_
  refine sv_fr fun hin => ?_
  have hn7 : ∀ n : Nat, (∀ j : Nat, j ≤ n → sp_ch m k j ≠ -1) → (n : Int) ≤ 7 := fun n h => by
    have hc7 := hq.1
    rcases hq.ch hw hk.1 hk.2 n with hx | ⟨c0, c1⟩
    · exact absurd hx (h n (Nat.le_refl _))
    · omega
  have lp : ∀ (kk : Nat) (n : Nat), 20 - (n : Int) < (kk : Int) → (∀ j : Nat, j ≤ n → sp_ch m k j ≠ -1) → sv_T X (sv_rm 0 0 0) ML_links (sv_Zm X 0 0 (sv_qp (some (sv_i (sp_lk m k))) S f r g)) 0 0 4 [some (sv_r b), some (sv_i k), some (sv_i ((n : Int) + 1)), some (sv_i (sp_ch m k n))] [] S (f) r g := by
    intro kk
    induction kk with
    | zero =>
      intro n hkk h1
      exact absurd hkk (by have := hn7 n h1; omega)
    | succ kk ih =>
      intro n hkk h1
      have hc7 := hq.1
      rcases hq.ch hw hk.1 hk.2 n with hx | ⟨c0, c1⟩
      · exact absurd hx (h1 n (Nat.le_refl _))
      have hr := (hq.row c0 (by omega)).1
      have hfm := hw.frm c0 (s := sp_ch m k n) (by omega)
      have hbb := hq.base hw c0 (k := sp_ch m k n) (by omega)
      have hbs := hq.bs c0 (k := sp_ch m k n) (by omega)
      refine sv_aload_n (i := 0) dL_links_4 rfl rfl ?_
      refine sv_bipush dL_links_5 (by decide) ?_
      refine sv_iload_n (i := 3) dL_links_7 rfl rfl ?_
      refine sv_imul dL_links_8 ?_
      refine sv_iald dL_links_9 hb.1 hb.2 (by omega) ?_
      refine sv_if_eq (tgt := 40) dL_links_10 (by decide) (hin _ _) (fun h_10 => absurd h_10 (by rw [hr.1]; omega)) (fun h_10 => ?_)
      refine sv_aload_n (i := 0) dL_links_13 rfl rfl ?_
      refine sv_bipush dL_links_14 (by decide) ?_
      refine sv_iload_n (i := 3) dL_links_16 rfl rfl ?_
      refine sv_imul dL_links_17 ?_
      refine sv_iconst dL_links_18 ?_
      refine sv_iadd dL_links_19 ?_
      refine sv_iald dL_links_20 hb.1 hb.2 (by omega) ?_
      refine sv_iconst dL_links_21 ?_
      refine sv_icmp_eq (tgt := 40) dL_links_22 (by decide) (hin _ _) (by decide) (fun h_22 => ?_) (fun h_22 => ?_)
      · refine sv_iload_n (i := 2) dL_links_40 rfl rfl ?_
        refine sv_ireturn dL_links_41 rfl ?_
        have hL : sp_lk m k = ((n + 1 : Nat) : Int) := sp_lk_eq (by omega) (fun j hj => h1 j (by omega)) (by
          show sp_bs m (sp_ch m k n) = -1
          rw [hbs, ← hr.2.2.1]
          exact h_22)
        exact ⟨congrArg (fun z => some (sv_i z)) (by rw [hL]; omega), rfl, rfl, rfl, rfl⟩
      · refine sv_aload_n (i := 0) dL_links_25 rfl rfl ?_
        refine sv_bipush dL_links_26 (by decide) ?_
        refine sv_iload_n (i := 3) dL_links_28 rfl rfl ?_
        refine sv_imul dL_links_29 ?_
        refine sv_iconst dL_links_30 ?_
        refine sv_iadd dL_links_31 ?_
        refine sv_iald dL_links_32 hb.1 hb.2 (by omega) ?_
        rw [hr.2.2.1, ← hbs]
        refine sv_istore_n (i := 3) dL_links_33 rfl (by decide) rfl ?_
        refine sv_iinc dL_links_34 rfl (by decide) rfl ?_
        refine sv_goto (tgt := 4) dL_links_37 (by decide) ?_
        refine sv_cast (ih (n + 1) (by omega) (fun j hj => ?_)) rfl rfl rfl (by simp [sp_ch]) rfl rfl
        by_cases e : j = n + 1
        · subst e
          show sp_bs m (sp_ch m k n) ≠ -1
          rw [hbs]
          rw [hr.2.2.1] at h_22
          exact h_22
        · exact h1 j (by omega)
  refine sv_iconst dL_links_0 ?_
  refine sv_istore_n (i := 2) dL_links_1 rfl (by decide) rfl ?_
  refine sv_iload_n (i := 1) dL_links_2 rfl rfl ?_
  refine sv_istore_n (i := 3) dL_links_3 rfl (by decide) rfl ?_
  exact sv_cast (lp 21 0 (by omega) (fun j hj => by rw [show j = 0 by omega]; show k ≠ -1; omega)) rfl rfl rfl rfl rfl rfl
set_option maxRecDepth 100000 in
set_option maxHeartbeats 4000000 in
theorem c_L_up {X : sv_X} {S : sv_S} {f : sv_F} {r : sv_R} {g : sv_G} {b : Nat} {m : Int → Int} (hb : b < S.1 ∧ S.2 b = (6, 64)) (hw : sp_wt m) (hq : lw_q (f b) m) {k l : Int} (hk : 0 ≤ k ∧ k < m 580) (hl : 0 ≤ l ∧ l ≤ 20) (hc : ∀ j : Nat, (j : Int) ≤ l → sp_ch m k j ≠ -1) : sv_C X 0 ML_up 0 0 [sv_r b, sv_i k, sv_i l] S f r g (sv_qp (some (sv_i (sp_ch m k l.toNat))) S f r g) := by
  refine sv_met (by decide) (by simp [lg_sl, sv_cv, va_rf, Value.category]) ?_
  refine sv_fr fun hin => ?_
  have lp : ∀ (kk : Nat) (n : Nat), l - (n : Int) < (kk : Int) → ((n : Int) ≤ l) → sv_T X (sv_rm 0 0 0) ML_up (sv_Zm X 0 0 (sv_qp (some (sv_i (sp_ch m k l.toNat))) S f r g)) 0 0 5 [some (sv_r b), some (sv_i k), some (sv_i l), some (sv_i (sp_ch m k n)), some (sv_i (n : Nat))] [] S (f) r g := by
    intro kk
    induction kk with
    | zero =>
      intro n hkk h1
      exact absurd hkk (by omega)
    | succ kk ih =>
      intro n hkk h1
      refine sv_iload dL_up_5 rfl ?_
      refine sv_iload_n (i := 2) dL_up_7 rfl rfl ?_
      refine sv_icmp_ge (tgt := 26) dL_up_8 (by decide) (by first | omega | exact hin _ _ | decide | (simp [sv_u, sv_row]; omega) | (simp [sv_u, sv_row]; exact hin _ _) | exact hin1 _ _ | (simp [sv_u, sv_row]; exact hin1 _ _)) (by first | omega | exact hin _ _ | decide | (simp [sv_u, sv_row]; omega) | (simp [sv_u, sv_row]; exact hin _ _) | exact hin1 _ _ | (simp [sv_u, sv_row]; exact hin1 _ _)) (fun h_8 => ?_) (fun h_8 => ?_)
      · refine sv_iload_n (i := 3) dL_up_26 rfl rfl ?_
        refine sv_ireturn dL_up_27 rfl ?_
        exact ⟨by rw [show l.toNat = n by omega], rfl, rfl, rfl, rfl⟩
      · have hc7 := hq.1
        rcases hq.ch hw hk.1 hk.2 n with hx | ⟨c0, c1⟩
        · exact absurd hx (hc n (by omega))
        have hr := (hq.row c0 (by omega)).1
        have hbs := hq.bs c0 (k := sp_ch m k n) (by omega)
        refine sv_aload_n (i := 0) dL_up_11 rfl rfl ?_
        refine sv_bipush dL_up_12 (by decide) ?_
        refine sv_iload_n (i := 3) dL_up_14 rfl rfl ?_
        refine sv_imul dL_up_15 ?_
        refine sv_iconst dL_up_16 ?_
        refine sv_iadd dL_up_17 ?_
        refine sv_iald dL_up_18 hb.1 hb.2 (by omega) ?_
        rw [hr.2.2.1, ← hbs]
        refine sv_istore_n (i := 3) dL_up_19 rfl (by decide) rfl ?_
        refine sv_iinc dL_up_20 rfl (by decide) rfl ?_
        refine sv_goto (tgt := 5) dL_up_23 (by decide) ?_
        exact sv_cast (ih (n + 1) (by omega) (by omega)) rfl rfl rfl (by simp [sp_ch]) rfl rfl
  refine sv_iload_n (i := 1) dL_up_0 rfl rfl ?_
  refine sv_istore_n (i := 3) dL_up_1 rfl (by decide) rfl ?_
  refine sv_iconst dL_up_2 ?_
  refine sv_istore dL_up_3 (by decide) rfl ?_
  exact sv_cast (lp (l + 1).toNat 0 (by omega) (by omega)) rfl rfl rfl rfl rfl rfl
set_option maxRecDepth 100000 in
set_option maxHeartbeats 4000000 in
theorem c_L_apart {X : sv_X} {S : sv_S} {f : sv_F} {r : sv_R} {g : sv_G} {a b n l : Nat} (ha : a < S.1 ∧ S.2 a = (6, n)) (hb : b < S.1 ∧ S.2 b = (6, l)) (hn : 13 ≤ n) (hl : 13 ≤ l) (hf : 1 ≤ f a 12 ∧ f a 12 ≤ 3) : sv_C X 1 ML_apart 0 0 [sv_r a, sv_r b] S f r g (sv_qp (some (sv_i (sp_dn (f a) (f b) (6 + 2 * f a 12).toNat))) S f r g) := by
  refine sv_met (by decide) (by simp [lg_sl, sv_cv, va_rf, Value.category]) ?_
  refine sv_fr fun hin => ?_
  have lp : ∀ (kk : Nat) (s : Nat), 6 + 2 * f a 12 - (s : Int) < (kk : Int) → ((s : Int) ≤ 6 + 2 * f a 12) → sv_T X (sv_rm 1 0 0) ML_apart (sv_Zm X 0 0 (sv_qp (some (sv_i (sp_dn (f a) (f b) (6 + 2 * f a 12).toNat))) S f r g)) 0 0 4 [some (sv_r a), some (sv_r b), some (sv_i (sp_dn (f a) (f b) s)), some (sv_i (s : Nat))] [] S (f) r g := by
    intro kk
    induction kk with
    | zero =>
      intro s hkk h1
      exact absurd hkk (by omega)
    | succ kk ih =>
      intro s hkk h1
      refine sv_iload_n (i := 3) dL_apart_4 rfl rfl ?_
      refine sv_aload_n (i := 0) dL_apart_5 rfl rfl ?_
      refine sv_bipush dL_apart_6 (by decide) ?_
      refine sv_iald dL_apart_8 ha.1 ha.2 (by omega) ?_
      refine sv_sp0 (As := [_]) clL_11 dL_apart_9 rfl (Nat.le_of_ble_eq_true rfl) (by decide) (by decide) (c_L_many (by omega)) ?_
      refine sv_icmp_ge (tgt := 38) dL_apart_12 (by decide) (by first | omega | exact hin _ _ | decide | (simp [sv_u, sv_row]; omega) | (simp [sv_u, sv_row]; exact hin _ _) | exact hin1 _ _ | (simp [sv_u, sv_row]; exact hin1 _ _)) (by first | omega | exact hin _ _ | decide | (simp [sv_u, sv_row]; omega) | (simp [sv_u, sv_row]; exact hin _ _) | exact hin1 _ _ | (simp [sv_u, sv_row]; exact hin1 _ _)) (fun h_12 => ?_) (fun h_12 => ?_)
      · refine sv_iload_n (i := 2) dL_apart_38 rfl rfl ?_
        refine sv_ireturn dL_apart_39 rfl ?_
        exact ⟨by rw [show (6 + 2 * f a 12).toNat = s by omega], rfl, rfl, rfl, rfl⟩
      · have d1 := sp_dn_in (f a) (f b) s
        refine sv_iload_n (i := 2) dL_apart_15 rfl rfl ?_
        refine sv_aload_n (i := 0) dL_apart_16 rfl rfl ?_
        refine sv_iload_n (i := 3) dL_apart_17 rfl rfl ?_
        refine sv_iald dL_apart_18 ha.1 ha.2 (by omega) ?_
        refine sv_aload_n (i := 1) dL_apart_19 rfl rfl ?_
        refine sv_iload_n (i := 3) dL_apart_20 rfl rfl ?_
        refine sv_iald dL_apart_21 hb.1 hb.2 (by omega) ?_
        refine sv_icmp_ne (tgt := 29) dL_apart_22 (by decide) (by first | omega | exact hin _ _ | decide | (simp [sv_u, sv_row]; omega) | (simp [sv_u, sv_row]; exact hin _ _) | exact hin1 _ _ | (simp [sv_u, sv_row]; exact hin1 _ _)) (by first | omega | exact hin _ _ | decide | (simp [sv_u, sv_row]; omega) | (simp [sv_u, sv_row]; exact hin _ _) | exact hin1 _ _ | (simp [sv_u, sv_row]; exact hin1 _ _)) (fun h_22 => ?_) (fun h_22 => ?_)
        · refine sv_iconst dL_apart_29 ?_
          refine sv_iadd dL_apart_30 ?_
          refine sv_istore_n (i := 2) dL_apart_31 rfl (by decide) rfl ?_
          refine sv_iinc dL_apart_32 rfl (by decide) rfl ?_
          refine sv_goto (tgt := 4) dL_apart_35 (by decide) ?_
          first
          | exact sv_cast (ih (s + 1) (by omega) (by omega)) rfl rfl rfl (by show _ = [_, _, _, _]; rw [show sp_dn (f a) (f b) (s + 1) = sp_dn (f a) (f b) s + 0 by show sp_dn (f a) (f b) s + _ = _; rw [if_pos h_22]]; rfl) rfl rfl
          | exact sv_cast (ih (s + 1) (by omega) (by omega)) rfl rfl rfl (by show _ = [_, _, _, _]; rw [show sp_dn (f a) (f b) (s + 1) = sp_dn (f a) (f b) s + 1 by show sp_dn (f a) (f b) s + _ = _; rw [if_neg h_22]]; rfl) rfl rfl
        · refine sv_iconst dL_apart_25 ?_
          refine sv_goto (tgt := 30) dL_apart_26 (by decide) ?_
          refine sv_iadd dL_apart_30 ?_
          refine sv_istore_n (i := 2) dL_apart_31 rfl (by decide) rfl ?_
          refine sv_iinc dL_apart_32 rfl (by decide) rfl ?_
          refine sv_goto (tgt := 4) dL_apart_35 (by decide) ?_
          first
          | exact sv_cast (ih (s + 1) (by omega) (by omega)) rfl rfl rfl (by show _ = [_, _, _, _]; rw [show sp_dn (f a) (f b) (s + 1) = sp_dn (f a) (f b) s + 0 by show sp_dn (f a) (f b) s + _ = _; rw [if_pos h_22]]; rfl) rfl rfl
          | exact sv_cast (ih (s + 1) (by omega) (by omega)) rfl rfl rfl (by show _ = [_, _, _, _]; rw [show sp_dn (f a) (f b) (s + 1) = sp_dn (f a) (f b) s + 1 by show sp_dn (f a) (f b) s + _ = _; rw [if_neg h_22]]; rfl) rfl rfl
  refine sv_iconst dL_apart_0 ?_
  refine sv_istore_n (i := 2) dL_apart_1 rfl (by decide) rfl ?_
  refine sv_iconst dL_apart_2 ?_
  refine sv_istore_n (i := 3) dL_apart_3 rfl (by decide) rfl ?_
  exact lp (6 + 2 * f a 12 + 1).toNat 0 (by omega) (by omega)
