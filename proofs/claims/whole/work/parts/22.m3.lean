set_option maxRecDepth 100000 in
set_option maxHeartbeats 4000000 in
theorem c_X5_raises {X : sv_X} {S : sv_S} {f : sv_F} {r : sv_R} {g : sv_G} {o : Nat} (hsh : sv_M5 S r o) (hfm : f o 4 = 1 ∨ f o 4 = 2) (hv : sp_ok (f (o + 3)) (6 + 2 * f o 4)) : sv_C X 0 MX5_raises 0 0 [sv_r o] S f r g (sv_qv (fun f' => f' = sv_u (sv_row f (o + 3) (if f o 4 = 1 then sp_r1 (f (o + 3)) else sp_r2 (f (o + 3)))) o 4 (f o 4 + 1)) S r g) := by
  refine sv_met (by decide) (by simp [lg_sl, sv_cv, va_rf, Value.category]) ?_
  refine sv_fr fun hin => ?_
  have a0 := hv 0 (by omega) (by omega)
  have a1 := hv 1 (by omega) (by omega)
  have a2 := hv 2 (by omega) (by omega)
  have a4 := hv 4 (by omega) (by omega)
  have a7 := hv 7 (by omega) (by omega)
  have a9 : f o 4 = 2 → 0 ≤ f (o + 3) 9 ∧ f (o + 3) 9 ≤ 99 := fun h => hv 9 (by omega) (by omega)
  refine sv_aload_n (i := 0) dX5_raises_0 rfl rfl ?_
  refine sv_getI (kz := 4) flX5_46 dX5_raises_1 rfl rfl hsh.lt hsh.k ?_
  refine sv_iconst dX5_raises_4 ?_
  refine sv_icmp_ne (tgt := 54) dX5_raises_5 (by decide) (by first | omega | exact hin _ _ | decide | (simp [sv_u, sv_row]; omega) | (simp [sv_u, sv_row]; exact hin _ _) | exact hin1 _ _ | (simp [sv_u, sv_row]; exact hin1 _ _)) (by first | omega | exact hin _ _ | decide | (simp [sv_u, sv_row]; omega) | (simp [sv_u, sv_row]; exact hin _ _) | exact hin1 _ _ | (simp [sv_u, sv_row]; exact hin1 _ _)) (fun h_5 => ?_) (fun h_5 => ?_)
  · have a9 := a9 (by omega)
    refine sv_aload_n (i := 0) dX5_raises_54 rfl rfl ?_
    refine sv_getR (kz := 3) flX5_16 dX5_raises_55 rfl rfl hsh.lt hsh.k hsh.r3 ?_
    refine sv_iconst dX5_raises_58 ?_
    refine sv_iald dX5_raises_59 hsh.l3 hsh.s3 (by omega) ?_
    refine sv_istore_n (i := 1) dX5_raises_60 rfl (by decide) rfl ?_
    refine sv_aload_n (i := 0) dX5_raises_61 rfl rfl ?_
    refine sv_getR (kz := 3) flX5_16 dX5_raises_62 rfl rfl hsh.lt hsh.k hsh.r3 ?_
    refine sv_iconst dX5_raises_65 ?_
    refine sv_aload_n (i := 0) dX5_raises_66 rfl rfl ?_
    refine sv_getR (kz := 3) flX5_16 dX5_raises_67 rfl rfl hsh.lt hsh.k hsh.r3 ?_
    refine sv_iconst dX5_raises_70 ?_
    refine sv_iald dX5_raises_71 hsh.l3 hsh.s3 (by omega) ?_
    refine sv_iast dX5_raises_72 hsh.l3 hsh.s3 (by omega) (by first | omega | exact hin _ _ | decide | (simp [sv_u, sv_row]; omega) | (simp [sv_u, sv_row]; exact hin _ _) | exact hin1 _ _ | (simp [sv_u, sv_row]; exact hin1 _ _)) ?_
    refine sv_aload_n (i := 0) dX5_raises_73 rfl rfl ?_
    refine sv_getR (kz := 3) flX5_16 dX5_raises_74 rfl rfl hsh.lt hsh.k hsh.r3 ?_
    refine sv_iconst dX5_raises_77 ?_
    refine sv_iload_n (i := 1) dX5_raises_78 rfl rfl ?_
    refine sv_iast dX5_raises_79 hsh.l3 hsh.s3 (by omega) (by first | omega | exact hin _ _ | decide | (simp [sv_u, sv_row]; omega) | (simp [sv_u, sv_row]; exact hin _ _) | exact hin1 _ _ | (simp [sv_u, sv_row]; exact hin1 _ _)) ?_
    refine sv_aload_n (i := 0) dX5_raises_80 rfl rfl ?_
    refine sv_getR (kz := 3) flX5_16 dX5_raises_81 rfl rfl hsh.lt hsh.k hsh.r3 ?_
    refine sv_bipush dX5_raises_84 (by decide) ?_
    refine sv_iconst dX5_raises_86 ?_
    refine sv_aload_n (i := 0) dX5_raises_87 rfl rfl ?_
    refine sv_getR (kz := 3) flX5_16 dX5_raises_88 rfl rfl hsh.lt hsh.k hsh.r3 ?_
    refine sv_bipush dX5_raises_91 (by decide) ?_
    refine sv_iald dX5_raises_93 hsh.l3 hsh.s3 (by omega) ?_
    refine sv_imul dX5_raises_94 ?_
    refine sv_bipush dX5_raises_95 (by decide) ?_
    refine sv_icmp_le (tgt := 105) dX5_raises_97 (by decide) (by first | omega | exact hin _ _ | decide | (simp [sv_u, sv_row]; omega) | (simp [sv_u, sv_row]; exact hin _ _) | exact hin1 _ _ | (simp [sv_u, sv_row]; exact hin1 _ _)) (by first | omega | exact hin _ _ | decide | (simp [sv_u, sv_row]; omega) | (simp [sv_u, sv_row]; exact hin _ _) | exact hin1 _ _ | (simp [sv_u, sv_row]; exact hin1 _ _)) (fun h_97 => ?_) (fun h_97 => ?_)
    · refine sv_iconst dX5_raises_105 ?_
      refine sv_aload_n (i := 0) dX5_raises_106 rfl rfl ?_
      refine sv_getR (kz := 3) flX5_16 dX5_raises_107 rfl rfl hsh.lt hsh.k hsh.r3 ?_
      refine sv_bipush dX5_raises_110 (by decide) ?_
      refine sv_iald dX5_raises_112 hsh.l3 hsh.s3 (by omega) ?_
      refine sv_imul dX5_raises_113 ?_
      refine sv_iast dX5_raises_114 hsh.l3 hsh.s3 (by omega) (by first | omega | exact hin _ _ | decide | (simp [sv_u, sv_row]; omega) | (simp [sv_u, sv_row]; exact hin _ _) | exact hin1 _ _ | (simp [sv_u, sv_row]; exact hin1 _ _)) ?_
      refine sv_aload_n (i := 0) dX5_raises_115 rfl rfl ?_
      refine sv_getR (kz := 3) flX5_16 dX5_raises_116 rfl rfl hsh.lt hsh.k hsh.r3 ?_
      refine sv_bipush dX5_raises_119 (by decide) ?_
      refine sv_bipush dX5_raises_121 (by decide) ?_
      refine sv_iast dX5_raises_123 hsh.l3 hsh.s3 (by omega) (by first | omega | exact hin _ _ | decide | (simp [sv_u, sv_row]; omega) | (simp [sv_u, sv_row]; exact hin _ _) | exact hin1 _ _ | (simp [sv_u, sv_row]; exact hin1 _ _)) ?_
      refine sv_aload_n (i := 0) dX5_raises_124 rfl rfl ?_
      refine sv_dup dX5_raises_125 rfl ?_
      refine sv_getI (kz := 4) flX5_46 dX5_raises_126 rfl rfl hsh.lt hsh.k ?_
      refine sv_iconst dX5_raises_129 ?_
      refine sv_iadd dX5_raises_130 ?_
      refine sv_putI (kz := 4) flX5_46 dX5_raises_131 (Or.inl rfl) rfl rfl hsh.lt hsh.k (by first | omega | exact hin _ _ | decide | (simp [sv_u, sv_row]; omega) | (simp [sv_u, sv_row]; exact hin _ _) | exact hin1 _ _ | (simp [sv_u, sv_row]; exact hin1 _ _)) ?_
      refine sv_return dX5_raises_134 rfl ?_
      exact ⟨rfl, rfl, rfl, rfl, by funext x y; grind [sv_u, sv_row, sp_r1, sp_r2]⟩
    · refine sv_bipush dX5_raises_100 (by decide) ?_
      refine sv_goto (tgt := 114) dX5_raises_102 (by decide) ?_
      refine sv_iast dX5_raises_114 hsh.l3 hsh.s3 (by omega) (by first | omega | exact hin _ _ | decide | (simp [sv_u, sv_row]; omega) | (simp [sv_u, sv_row]; exact hin _ _) | exact hin1 _ _ | (simp [sv_u, sv_row]; exact hin1 _ _)) ?_
      refine sv_aload_n (i := 0) dX5_raises_115 rfl rfl ?_
      refine sv_getR (kz := 3) flX5_16 dX5_raises_116 rfl rfl hsh.lt hsh.k hsh.r3 ?_
      refine sv_bipush dX5_raises_119 (by decide) ?_
      refine sv_bipush dX5_raises_121 (by decide) ?_
      refine sv_iast dX5_raises_123 hsh.l3 hsh.s3 (by omega) (by first | omega | exact hin _ _ | decide | (simp [sv_u, sv_row]; omega) | (simp [sv_u, sv_row]; exact hin _ _) | exact hin1 _ _ | (simp [sv_u, sv_row]; exact hin1 _ _)) ?_
      refine sv_aload_n (i := 0) dX5_raises_124 rfl rfl ?_
      refine sv_dup dX5_raises_125 rfl ?_
      refine sv_getI (kz := 4) flX5_46 dX5_raises_126 rfl rfl hsh.lt hsh.k ?_
      refine sv_iconst dX5_raises_129 ?_
      refine sv_iadd dX5_raises_130 ?_
      refine sv_putI (kz := 4) flX5_46 dX5_raises_131 (Or.inl rfl) rfl rfl hsh.lt hsh.k (by first | omega | exact hin _ _ | decide | (simp [sv_u, sv_row]; omega) | (simp [sv_u, sv_row]; exact hin _ _) | exact hin1 _ _ | (simp [sv_u, sv_row]; exact hin1 _ _)) ?_
      refine sv_return dX5_raises_134 rfl ?_
      exact ⟨rfl, rfl, rfl, rfl, by funext x y; grind [sv_u, sv_row, sp_r1, sp_r2]⟩
  · refine sv_aload_n (i := 0) dX5_raises_8 rfl rfl ?_
    refine sv_getR (kz := 3) flX5_16 dX5_raises_9 rfl rfl hsh.lt hsh.k hsh.r3 ?_
    refine sv_bipush dX5_raises_12 (by decide) ?_
    refine sv_aload_n (i := 0) dX5_raises_14 rfl rfl ?_
    refine sv_getR (kz := 3) flX5_16 dX5_raises_15 rfl rfl hsh.lt hsh.k hsh.r3 ?_
    refine sv_iconst dX5_raises_18 ?_
    refine sv_iald dX5_raises_19 hsh.l3 hsh.s3 (by omega) ?_
    refine sv_aload_n (i := 0) dX5_raises_20 rfl rfl ?_
    refine sv_getR (kz := 3) flX5_16 dX5_raises_21 rfl rfl hsh.lt hsh.k hsh.r3 ?_
    refine sv_iconst dX5_raises_24 ?_
    refine sv_iald dX5_raises_25 hsh.l3 hsh.s3 (by omega) ?_
    refine sv_iadd dX5_raises_26 ?_
    refine sv_aload_n (i := 0) dX5_raises_27 rfl rfl ?_
    refine sv_getR (kz := 3) flX5_16 dX5_raises_28 rfl rfl hsh.lt hsh.k hsh.r3 ?_
    refine sv_iconst dX5_raises_31 ?_
    refine sv_iald dX5_raises_32 hsh.l3 hsh.s3 (by omega) ?_
    refine sv_iadd dX5_raises_33 ?_
    refine sv_iconst dX5_raises_34 ?_
    refine sv_idiv dX5_raises_35 (by omega) (by decide) ?_
    refine sv_iast dX5_raises_36 hsh.l3 hsh.s3 (by omega) (by first | omega | exact hin _ _ | decide | (simp [sv_u, sv_row]; omega) | (simp [sv_u, sv_row]; exact hin _ _) | exact hin1 _ _ | (simp [sv_u, sv_row]; exact hin1 _ _)) ?_
    refine sv_aload_n (i := 0) dX5_raises_37 rfl rfl ?_
    refine sv_getR (kz := 3) flX5_16 dX5_raises_38 rfl rfl hsh.lt hsh.k hsh.r3 ?_
    refine sv_bipush dX5_raises_41 (by decide) ?_
    refine sv_aload_n (i := 0) dX5_raises_43 rfl rfl ?_
    refine sv_getR (kz := 3) flX5_16 dX5_raises_44 rfl rfl hsh.lt hsh.k hsh.r3 ?_
    refine sv_bipush dX5_raises_47 (by decide) ?_
    refine sv_iald dX5_raises_49 hsh.l3 hsh.s3 (by omega) ?_
    refine sv_iast dX5_raises_50 hsh.l3 hsh.s3 (by omega) (by first | omega | exact hin _ _ | decide | (simp [sv_u, sv_row]; omega) | (simp [sv_u, sv_row]; exact hin _ _) | exact hin1 _ _ | (simp [sv_u, sv_row]; exact hin1 _ _)) ?_
    refine sv_goto (tgt := 124) dX5_raises_51 (by decide) ?_
    refine sv_aload_n (i := 0) dX5_raises_124 rfl rfl ?_
    refine sv_dup dX5_raises_125 rfl ?_
    refine sv_getI (kz := 4) flX5_46 dX5_raises_126 rfl rfl hsh.lt hsh.k ?_
    refine sv_iconst dX5_raises_129 ?_
    refine sv_iadd dX5_raises_130 ?_
    refine sv_putI (kz := 4) flX5_46 dX5_raises_131 (Or.inl rfl) rfl rfl hsh.lt hsh.k (by first | omega | exact hin _ _ | decide | (simp [sv_u, sv_row]; omega) | (simp [sv_u, sv_row]; exact hin _ _) | exact hin1 _ _ | (simp [sv_u, sv_row]; exact hin1 _ _)) ?_
    refine sv_return dX5_raises_134 rfl ?_
    exact ⟨rfl, rfl, rfl, rfl, by funext x y; grind [sv_u, sv_row, sp_r1, sp_r2]⟩
set_option maxRecDepth 100000 in
set_option maxHeartbeats 4000000 in
theorem c_X5_raisesTo {X : sv_X} {S : sv_S} {f : sv_F} {r : sv_R} {g : sv_G} {o : Nat} (hsh : sv_M5 S r o) (a : Int) (ha : sv_in a) (ha3 : a ≤ 3) (hfm : 1 ≤ f o 4 ∧ f o 4 ≤ 3) (hv : f o 4 < a → sp_ok (f (o + 3)) (6 + 2 * f o 4)) : sv_C X 1 MX5_raisesTo 0 0 [sv_r o, sv_i a] S f r g (sv_qv (fun f' => f' = sv_u (sv_row f (o + 3) (sp_rz (f (o + 3)) (f o 4) a)) o 4 (max (f o 4) a)) S r g) := by
  refine sv_met (by decide) (by simp [lg_sl, sv_cv, va_rf, Value.category]) ?_
  refine sv_fr fun hin => ?_
  have lp : ∀ (k : Nat) (f1 : sv_F), 3 - f1 o 4 < (k : Int) → (1 ≤ f1 o 4 ∧ f1 o 4 ≤ 3) → (f1 o 4 < a → sp_ok (f1 (o + 3)) (6 + 2 * f1 o 4)) → (sv_u (sv_row f1 (o + 3) (sp_rz (f1 (o + 3)) (f1 o 4) a)) o 4 (max (f1 o 4) a) = sv_u (sv_row f (o + 3) (sp_rz (f (o + 3)) (f o 4) a)) o 4 (max (f o 4) a)) → sv_T X (sv_rm 1 0 0) MX5_raisesTo (sv_Zm X 0 0 (sv_qv (fun f' => f' = sv_u (sv_row f (o + 3) (sp_rz (f (o + 3)) (f o 4) a)) o 4 (max (f o 4) a)) S r g)) 0 0 0 [some (sv_r o), some (sv_i a)] [] S (f1) r g := by
    intro k
    induction k with
    | zero =>
      intro f1 hk hfm hv hE
      exact absurd hk (by omega)
    | succ k ih =>
      intro f1 hk hfm hv hE
      refine sv_fr fun hin1 => ?_
      refine sv_aload_n (i := 0) dX5_raisesTo_0 rfl rfl ?_
      refine sv_getI (kz := 4) flX5_46 dX5_raisesTo_1 rfl rfl hsh.lt hsh.k ?_
      refine sv_iload_n (i := 1) dX5_raisesTo_4 rfl rfl ?_
      refine sv_icmp_ge (tgt := 15) dX5_raisesTo_5 (by decide) (by first | omega | exact hin _ _ | decide | (simp [sv_u, sv_row]; omega) | (simp [sv_u, sv_row]; exact hin _ _) | exact hin1 _ _ | (simp [sv_u, sv_row]; exact hin1 _ _)) (by first | omega | exact hin _ _ | decide | (simp [sv_u, sv_row]; omega) | (simp [sv_u, sv_row]; exact hin _ _) | exact hin1 _ _ | (simp [sv_u, sv_row]; exact hin1 _ _)) (fun h_5 => ?_) (fun h_5 => ?_)
      · refine sv_return dX5_raisesTo_15 rfl ?_
        refine ⟨rfl, rfl, rfl, rfl, ?_⟩
        rw [← hE, sp_rz_self (by omega)]
        funext x y
        grind [sv_u, sv_row]
      · have hq : f1 o 4 = 1 ∨ f1 o 4 = 2 := by omega
        have hv := hv (by omega)
        refine sv_aload_n (i := 0) dX5_raisesTo_8 rfl rfl ?_
        refine sv_vv0 (As := []) clX5_49 dX5_raisesTo_9 ⟨_, rfl, rfl⟩ (by decide) rfl (Nat.le_of_ble_eq_true rfl) (by decide) (by decide) hsh.lt hsh.k (c_X5_raises hsh hq hv) (fun f2 hf2 => ?_)
        refine sv_goto (tgt := 0) dX5_raisesTo_12 (by decide) ?_
        subst hf2
        exact ih _ (by simp [sv_u]; omega) (by simp [sv_u]; omega) (fun _ => by
          have e : sv_u (sv_row f1 (o + 3) (if f1 o 4 = 1 then sp_r1 (f1 (o + 3)) else sp_r2 (f1 (o + 3)))) o 4 (f1 o 4 + 1) (o + 3) = (if f1 o 4 = 1 then sp_r1 (f1 (o + 3)) else sp_r2 (f1 (o + 3))) := by
            funext y; simp [sv_u, sv_row]
          rw [e]
          rcases hq with h | h
          · rw [if_pos h]
            have := sp_r1_ok (v := f1 (o + 3)) (by rw [h] at hv; exact hv)
            simp [sv_u, h]
            exact this
          · rw [if_neg (by omega)]
            have := sp_r2_ok (v := f1 (o + 3)) (by rw [h] at hv; exact hv)
            simp [sv_u, h]
            exact this) (by
          rw [← hE]
          rcases hq with h | h
          · have e1 : sp_rz (f1 (o + 3)) 1 a = sp_rz (sp_r1 (f1 (o + 3))) 2 a := sp_rz_1 (by omega)
            funext x y
            have e2 : sv_u (sv_row f1 (o + 3) (if f1 o 4 = 1 then sp_r1 (f1 (o + 3)) else sp_r2 (f1 (o + 3)))) o 4 (f1 o 4 + 1) (o + 3) = sp_r1 (f1 (o + 3)) := by
              funext y; simp [sv_u, sv_row, h]
            rw [e2, h, e1]
            have hm : max (1 : Int) a = a := by omega
            have hm2 : max (2 : Int) a = a := by omega
            by_cases hx : x = o <;> by_cases hx3 : x = o + 3 <;> by_cases hy : y = 4 <;> simp [sv_u, sv_row, hx, hx3, hy, hm, hm2]
          · have e1 : sp_rz (f1 (o + 3)) 2 a = sp_rz (sp_r2 (f1 (o + 3))) 3 a := sp_rz_2 (by omega)
            funext x y
            have e2 : sv_u (sv_row f1 (o + 3) (if f1 o 4 = 1 then sp_r1 (f1 (o + 3)) else sp_r2 (f1 (o + 3)))) o 4 (f1 o 4 + 1) (o + 3) = sp_r2 (f1 (o + 3)) := by
              funext y; simp [sv_u, sv_row, h]
            rw [e2, h, e1]
            have hm : max (2 : Int) a = a := by omega
            have hm2 : max (3 : Int) a = a := by omega
            by_cases hx : x = o <;> by_cases hx3 : x = o + 3 <;> by_cases hy : y = 4 <;> simp [sv_u, sv_row, hx, hx3, hy, hm, hm2])
  exact lp 4 f (by omega) hfm hv rfl

set_option maxRecDepth 100000 in
set_option maxHeartbeats 4000000 in
theorem c_X5_sumNow {X : sv_X} {S : sv_S} {f : sv_F} {r : sv_R} {g : sv_G} {o : Nat} {v : Int → Int} {fm : Int} (hsh : sv_M5 S r o) (hv0 : f (o + 3) = v) (hf0 : f o 4 = fm) (hfm : 1 ≤ fm ∧ fm ≤ 3) (hv : sp_ok v (6 + 2 * fm)) : sv_C X 1 MX5_sumNow 0 0 [sv_r o] S f r g (sv_qp (some (sv_i (sp_sm v (6 + 2 * fm).toNat))) S f r g) := by
  refine sv_met (by decide) (by simp [lg_sl, sv_cv, va_rf, Value.category]) ?_
  refine sv_fr fun hin => ?_
  subst hv0; subst hf0
  have lp : ∀ (k : Nat) (s : Int) (i : Int), 6 + 2 * f o 4 - i < (k : Int) → (0 ≤ i ∧ i ≤ 6 + 2 * f o 4) → (s = sp_sm (f (o + 3)) i.toNat) → sv_T X (sv_rm 1 0 0) MX5_sumNow (sv_Zm X 0 0 (sv_qp (some (sv_i (sp_sm (f (o + 3)) (6 + 2 * f o 4).toNat))) S f r g)) 0 0 5 [some (sv_r o), some (sv_i s), some (sv_i i)] [] S (f) r g := by
    intro k
    induction k with
    | zero =>
      intro s i hk h1 h2
      exact absurd hk (by omega)
    | succ k ih =>
      intro s i hk h1 h2
      refine sv_iload_n (i := 2) dX5_sumNow_5 rfl rfl ?_
      refine sv_aload_n (i := 0) dX5_sumNow_6 rfl rfl ?_
      refine sv_getI (kz := 4) flX5_46 dX5_sumNow_7 rfl rfl hsh.lt hsh.k ?_
      refine sv_sp0 (As := [_]) clX5_52 dX5_sumNow_10 rfl (Nat.le_of_ble_eq_true rfl) (by decide) (by decide) (c_X5_valuesOf _) ?_
      refine sv_icmp_ge (tgt := 38) dX5_sumNow_13 (by decide) (by first | omega | exact hin _ _ | decide | (simp [sv_u, sv_row]; omega) | (simp [sv_u, sv_row]; exact hin _ _) | exact hin1 _ _ | (simp [sv_u, sv_row]; exact hin1 _ _)) (by first | omega | exact hin _ _ | decide | (simp [sv_u, sv_row]; omega) | (simp [sv_u, sv_row]; exact hin _ _) | exact hin1 _ _ | (simp [sv_u, sv_row]; exact hin1 _ _)) (fun h_13 => ?_) (fun h_13 => ?_)
      · refine sv_iload_n (i := 1) dX5_sumNow_38 rfl rfl ?_
        refine sv_ireturn dX5_sumNow_39 rfl ?_
        exact ⟨by rw [h2, show i = 6 + 2 * f o 4 by omega], rfl, rfl, rfl, rfl⟩
      · refine sv_bipush dX5_sumNow_16 (by decide) ?_
        refine sv_iload_n (i := 1) dX5_sumNow_18 rfl rfl ?_
        refine sv_imul dX5_sumNow_19 ?_
        refine sv_aload_n (i := 0) dX5_sumNow_20 rfl rfl ?_
        refine sv_getR (kz := 3) flX5_16 dX5_sumNow_21 rfl rfl hsh.lt hsh.k hsh.r3 ?_
        refine sv_iload_n (i := 2) dX5_sumNow_24 rfl rfl ?_
        refine sv_iald dX5_sumNow_25 hsh.l3 hsh.s3 (by omega) ?_
        refine sv_iadd dX5_sumNow_26 ?_
        have a := hv i (by omega) (by omega)
        have b := sp_sm_in (f (o + 3)) i.toNat
        rw [← h2] at b
        refine sv_sipush dX5_sumNow_27 (by decide) ?_
        refine sv_irem dX5_sumNow_30 (by omega) (by decide) ?_
        refine sv_istore_n (i := 1) dX5_sumNow_31 rfl (by decide) rfl ?_
        refine sv_iinc dX5_sumNow_32 rfl (by decide) rfl ?_
        refine sv_goto (tgt := 5) dX5_sumNow_35 (by decide) ?_
        exact ih _ _ (by omega) (by omega) (by rw [sp_sm_s (by omega), h2])
  refine sv_bipush dX5_sumNow_0 (by decide) ?_
  refine sv_istore_n (i := 1) dX5_sumNow_2 rfl (by decide) rfl ?_
  refine sv_iconst dX5_sumNow_3 ?_
  refine sv_istore_n (i := 2) dX5_sumNow_4 rfl (by decide) rfl ?_
  exact lp (6 + 2 * f o 4 + 1).toNat 7 0 (by omega) (by omega) rfl
set_option maxRecDepth 100000 in
set_option maxHeartbeats 4000000 in
theorem c_X5_takesGame {X : sv_X} {S : sv_S} {f : sv_F} {r : sv_R} {g : sv_G} {o : Nat} (hsh : sv_M5 S r o) : sv_C X 0 MX5_takesGame 0 0 [sv_r o] S f r g (sv_qv (fun f' => f' = sv_u (sv_row f (o + 3) (fun j => if 0 ≤ j ∧ j < 12 then f (o + 1) (583 + j) else f (o + 3) j)) o 4 (f (o + 1) 582)) S r g) := by
  refine sv_met (by decide) (by simp [lg_sl, sv_cv, va_rf, Value.category]) ?_
  refine sv_fr fun hin => ?_
  have lp : ∀ (k : Nat) (i : Int), 12 - i < (k : Int) → (0 ≤ i ∧ i ≤ 12) → sv_T X (sv_rm 0 0 0) MX5_takesGame (sv_Zm X 0 0 (sv_qv (fun f' => f' = sv_u (sv_row f (o + 3) (fun j => if 0 ≤ j ∧ j < 12 then f (o + 1) (583 + j) else f (o + 3) j)) o 4 (f (o + 1) 582)) S r g)) 0 0 14 [some (sv_r o), some (sv_i i)] [] S (sv_u (sv_row f (o + 3) (fun j => if 0 ≤ j ∧ j < i then f (o + 1) (583 + j) else f (o + 3) j)) o 4 (f (o + 1) 582)) r g := by
    intro k
    induction k with
    | zero =>
      intro i hk h1
      exact absurd hk (by omega)
    | succ k ih =>
      intro i hk h1
      refine sv_iload_n (i := 1) dX5_takesGame_14 rfl rfl ?_
      refine sv_bipush dX5_takesGame_15 (by decide) ?_
      refine sv_icmp_ge (tgt := 42) dX5_takesGame_17 (by decide) (by first | omega | exact hin _ _ | decide | (simp [sv_u, sv_row]; omega) | (simp [sv_u, sv_row]; exact hin _ _) | exact hin1 _ _ | (simp [sv_u, sv_row]; exact hin1 _ _)) (by first | omega | exact hin _ _ | decide | (simp [sv_u, sv_row]; omega) | (simp [sv_u, sv_row]; exact hin _ _) | exact hin1 _ _ | (simp [sv_u, sv_row]; exact hin1 _ _)) (fun h_17 => ?_) (fun h_17 => ?_)
      · refine sv_return dX5_takesGame_42 rfl ?_
        exact ⟨rfl, rfl, rfl, rfl, by rw [show i = 12 by omega]⟩
      · refine sv_aload_n (i := 0) dX5_takesGame_20 rfl rfl ?_
        refine sv_getR (kz := 3) flX5_16 dX5_takesGame_21 rfl rfl hsh.lt hsh.k hsh.r3 ?_
        refine sv_iload_n (i := 1) dX5_takesGame_24 rfl rfl ?_
        refine sv_aload_n (i := 0) dX5_takesGame_25 rfl rfl ?_
        refine sv_getR (kz := 0) flX5_7 dX5_takesGame_26 rfl rfl hsh.lt hsh.k hsh.r1 ?_
        refine sv_sipush dX5_takesGame_29 (by decide) ?_
        refine sv_iload_n (i := 1) dX5_takesGame_32 rfl rfl ?_
        refine sv_iadd dX5_takesGame_33 ?_
        refine sv_iald dX5_takesGame_34 hsh.l1 hsh.s1 (by omega) ?_
        refine sv_iast dX5_takesGame_35 hsh.l3 hsh.s3 (by omega) (by simp [sv_u, sv_row]; exact hin _ _) ?_
        refine sv_iinc dX5_takesGame_36 rfl (by decide) rfl ?_
        refine sv_goto (tgt := 14) dX5_takesGame_39 (by decide) ?_
        exact sv_cast (ih (i + 1) (by omega) (by omega)) rfl rfl rfl rfl rfl (by funext x y; grind [sv_u, sv_row])
  refine sv_aload_n (i := 0) dX5_takesGame_0 rfl rfl ?_
  refine sv_aload_n (i := 0) dX5_takesGame_1 rfl rfl ?_
  refine sv_getR (kz := 0) flX5_7 dX5_takesGame_2 rfl rfl hsh.lt hsh.k hsh.r1 ?_
  refine sv_sipush dX5_takesGame_5 (by decide) ?_
  refine sv_iald dX5_takesGame_8 hsh.l1 hsh.s1 (by omega) ?_
  refine sv_putI (kz := 4) flX5_46 dX5_takesGame_9 (Or.inl rfl) rfl rfl hsh.lt hsh.k (by first | omega | exact hin _ _ | decide | (simp [sv_u, sv_row]; omega) | (simp [sv_u, sv_row]; exact hin _ _) | exact hin1 _ _ | (simp [sv_u, sv_row]; exact hin1 _ _)) ?_
  refine sv_iconst dX5_takesGame_12 ?_
  refine sv_istore_n (i := 1) dX5_takesGame_13 rfl (by decide) rfl ?_
  exact sv_cast (lp 13 0 (by omega) (by omega)) rfl rfl rfl rfl rfl (by funext x y; grind [sv_u, sv_row])
set_option maxRecDepth 100000 in
set_option maxHeartbeats 4000000 in
theorem c_X5_givesGame {X : sv_X} {S : sv_S} {f : sv_F} {r : sv_R} {g : sv_G} {o : Nat} (hsh : sv_M5 S r o) (hfm : 1 ≤ f o 4 ∧ f o 4 ≤ 3) : sv_C X 1 MX5_givesGame 0 0 [sv_r o] S f r g (sv_qv (fun f' => f' = sv_row f (o + 1) (fun j => if j = 582 then f o 4 else if 583 ≤ j ∧ j < 595 then (if j - 583 < 6 + 2 * f o 4 then f (o + 3) (j - 583) else 0) else f (o + 1) j)) S r g) := by
  refine sv_met (by decide) (by simp [lg_sl, sv_cv, va_rf, Value.category]) ?_
  refine sv_fr fun hin => ?_
  have lp : ∀ (k : Nat) (i : Int), 12 - i < (k : Int) → (0 ≤ i ∧ i ≤ 12) → sv_T X (sv_rm 1 0 0) MX5_givesGame (sv_Zm X 0 0 (sv_qv (fun f' => f' = sv_row f (o + 1) (fun j => if j = 582 then f o 4 else if 583 ≤ j ∧ j < 595 then (if j - 583 < 6 + 2 * f o 4 then f (o + 3) (j - 583) else 0) else f (o + 1) j)) S r g)) 0 0 14 [some (sv_r o), some (sv_i i)] [] S (sv_row f (o + 1) (fun j => if j = 582 then f o 4 else if 583 ≤ j ∧ j < 583 + i then (if j - 583 < 6 + 2 * f o 4 then f (o + 3) (j - 583) else 0) else f (o + 1) j)) r g := by
    intro k
    induction k with
    | zero =>
      intro i hk h1
      exact absurd hk (by omega)
    | succ k ih =>
      intro i hk h1
      refine sv_iload_n (i := 1) dX5_givesGame_14 rfl rfl ?_
      refine sv_bipush dX5_givesGame_15 (by decide) ?_
      refine sv_icmp_ge (tgt := 57) dX5_givesGame_17 (by decide) (by first | omega | exact hin _ _ | decide | (simp [sv_u, sv_row]; omega) | (simp [sv_u, sv_row]; exact hin _ _) | exact hin1 _ _ | (simp [sv_u, sv_row]; exact hin1 _ _)) (by first | omega | exact hin _ _ | decide | (simp [sv_u, sv_row]; omega) | (simp [sv_u, sv_row]; exact hin _ _) | exact hin1 _ _ | (simp [sv_u, sv_row]; exact hin1 _ _)) (fun h_17 => ?_) (fun h_17 => ?_)
      · refine sv_return dX5_givesGame_57 rfl ?_
        exact ⟨rfl, rfl, rfl, rfl, by rw [show i = 12 by omega]; simp⟩
      · refine sv_aload_n (i := 0) dX5_givesGame_20 rfl rfl ?_
        refine sv_getR (kz := 0) flX5_7 dX5_givesGame_21 rfl rfl hsh.lt hsh.k hsh.r1 ?_
        refine sv_sipush dX5_givesGame_24 (by decide) ?_
        refine sv_iload_n (i := 1) dX5_givesGame_27 rfl rfl ?_
        refine sv_iadd dX5_givesGame_28 ?_
        refine sv_iload_n (i := 1) dX5_givesGame_29 rfl rfl ?_
        refine sv_aload_n (i := 0) dX5_givesGame_30 rfl rfl ?_
        refine sv_getI (kz := 4) flX5_46 dX5_givesGame_31 rfl rfl hsh.lt hsh.k ?_
        refine sv_sp0 (As := [_]) clX5_52 dX5_givesGame_34 rfl (Nat.le_of_ble_eq_true rfl) (by decide) (by decide) (c_X5_valuesOf _) ?_
        refine sv_icmp_ge (tgt := 49) dX5_givesGame_37 (by decide) (by first | omega | exact hin _ _ | decide | (simp [sv_u, sv_row]; omega) | (simp [sv_u, sv_row]; exact hin _ _) | exact hin1 _ _ | (simp [sv_u, sv_row]; exact hin1 _ _)) (by first | omega | exact hin _ _ | decide | (simp [sv_u, sv_row]; omega) | (simp [sv_u, sv_row]; exact hin _ _) | exact hin1 _ _ | (simp [sv_u, sv_row]; exact hin1 _ _)) (fun h_37 => ?_) (fun h_37 => ?_)
        · refine sv_iconst dX5_givesGame_49 ?_
          refine sv_iast dX5_givesGame_50 hsh.l1 hsh.s1 (by omega) (by first | omega | exact hin _ _ | decide | (simp [sv_u, sv_row]; omega) | (simp [sv_u, sv_row]; exact hin _ _) | exact hin1 _ _ | (simp [sv_u, sv_row]; exact hin1 _ _)) ?_
          refine sv_iinc dX5_givesGame_51 rfl (by decide) rfl ?_
          refine sv_goto (tgt := 14) dX5_givesGame_54 (by decide) ?_
          exact sv_cast (ih (i + 1) (by omega) (by omega)) rfl rfl rfl rfl rfl (by funext x y; grind [sv_u, sv_row])
        · refine sv_aload_n (i := 0) dX5_givesGame_40 rfl rfl ?_
          refine sv_getR (kz := 3) flX5_16 dX5_givesGame_41 rfl rfl hsh.lt hsh.k hsh.r3 ?_
          refine sv_iload_n (i := 1) dX5_givesGame_44 rfl rfl ?_
          refine sv_iald dX5_givesGame_45 hsh.l3 hsh.s3 (by omega) ?_
          refine sv_goto (tgt := 50) dX5_givesGame_46 (by decide) ?_
          refine sv_iast dX5_givesGame_50 hsh.l1 hsh.s1 (by omega) (by first | omega | exact hin _ _ | decide | (simp [sv_u, sv_row]; omega) | (simp [sv_u, sv_row]; exact hin _ _) | exact hin1 _ _ | (simp [sv_u, sv_row]; exact hin1 _ _)) ?_
          refine sv_iinc dX5_givesGame_51 rfl (by decide) rfl ?_
          refine sv_goto (tgt := 14) dX5_givesGame_54 (by decide) ?_
          exact sv_cast (ih (i + 1) (by omega) (by omega)) rfl rfl rfl rfl rfl (by funext x y; grind [sv_u, sv_row])
  refine sv_aload_n (i := 0) dX5_givesGame_0 rfl rfl ?_
  refine sv_getR (kz := 0) flX5_7 dX5_givesGame_1 rfl rfl hsh.lt hsh.k hsh.r1 ?_
  refine sv_sipush dX5_givesGame_4 (by decide) ?_
  refine sv_aload_n (i := 0) dX5_givesGame_7 rfl rfl ?_
  refine sv_getI (kz := 4) flX5_46 dX5_givesGame_8 rfl rfl hsh.lt hsh.k ?_
  refine sv_iast dX5_givesGame_11 hsh.l1 hsh.s1 (by omega) (by first | omega | exact hin _ _ | decide | (simp [sv_u, sv_row]; omega) | (simp [sv_u, sv_row]; exact hin _ _) | exact hin1 _ _ | (simp [sv_u, sv_row]; exact hin1 _ _)) ?_
  refine sv_iconst dX5_givesGame_12 ?_
  refine sv_istore_n (i := 1) dX5_givesGame_13 rfl (by decide) rfl ?_
  exact sv_cast (lp 13 0 (by omega) (by omega)) rfl rfl rfl rfl rfl (by funext x y; grind [sv_u, sv_row])
