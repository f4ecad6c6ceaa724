set_option maxRecDepth 100000 in
set_option maxHeartbeats 4000000 in
theorem c_X5_keep {X : sv_X} {S : sv_S} {f : sv_F} {r : sv_R} {g : sv_G} {o : Nat} {m : Int → Int} (hsh : sv_M5 S r o) (hm : f (o + 1) = m) (hw : sp_wt m) (hg : sp_wg m) (hu : 0 ≤ f o 2 ∧ f o 2 ≤ 6) : sv_C X 5 MX5_keep 0 0 [sv_r o] S f r g (sv_qi (fun a f' => ((m 580 = 20 ∨ m 581 = 99) ∧ a = -4 ∧ f' = f) ∨ (¬ (m 580 = 20 ∨ m 581 = 99) ∧ a = m 581 ∧ sp_chg o f f' ∧ sp_keep m (f' (o + 1)))) S r g) := by
  refine sv_met (by decide) (by simp [lg_sl, sv_cv, va_rf, Value.category]) ?_
  refine sv_fr fun hin => ?_
  have h116 : ∀ (f1 f2 f3 f7 : sv_F) (m5 : Int → Int), (∀ x, x ≠ o → x ≠ o + 2 → f1 x = f x) → (∀ j, j ≠ 2 → f1 o j = f o j) → f1 (o + 2) = sp_kpast (f (o + 1)) (f (o + 2)) (f o 2) → f1 o 2 = sp_ku (f o 2) → (∀ x, x ≠ o → x ≠ o + 3 → f2 x = f1 x) → (∀ j, j ≠ 4 → f2 o j = f1 o j) → sp_sq o f2 f3 → (∀ x, x ≠ o + 1 → f7 x = f3 x) → f7 (o + 1) = m5 → (∀ j, ¬ (29 * m 580 ≤ j ∧ j < 29 * m 580 + 29) → m5 j = m j) → m5 (29 * m 580) = m 581 → m5 (29 * m 580 + 1) = m 582 → m5 (29 * m 580 + 2) = sp_sm (sp_gv m) (6 + 2 * m 582).toNat → (sp_near m → sp_rowD m5 (m 580) (m 595) (6 + 2 * m 582) (sp_rz (sp_V m (m 595)) (m (29 * sp_slot m (m 595) + 1)) (m 582)) (sp_gv m)) → (¬ sp_near m → sp_rowW m5 (m 580) (6 + 2 * m 582) (sp_gv m)) → ¬ (m 580 = 20 ∨ m 581 = 99) → sv_T X (sv_rm 5 0 0) MX5_keep (sv_Zm X 0 0 (sv_qi (fun a f' => ((m 580 = 20 ∨ m 581 = 99) ∧ a = -4 ∧ f' = f) ∨ (¬ (m 580 = 20 ∨ m 581 = 99) ∧ a = m 581 ∧ sp_chg o f f' ∧ sp_keep m (f' (o + 1)))) S r g)) 0 0 116 [some (sv_r o), none, none, none] [] S (f7) r g := by
    intro f1 f2 f3 f7 m5 k1 k2 k3 k4 e3 e4 hsq3 n7 hm7 b1 b2 b3 b4 b5 b6 hnf
    have v580 : m5 580 = m 580 := b1 580 (by omega)
    have v581 : m5 581 = m 581 := b1 581 (by omega)
    have hcc := hw.c
    have hcm := hw.cm
    have hgf := hg.f
    refine sv_aload_n (i := 0) dX5_keep_116 rfl rfl ?_
    refine sv_getR (kz := 0) flX5_7 dX5_keep_117 rfl rfl hsh.lt hsh.k hsh.r1 ?_
    refine sv_sipush dX5_keep_120 (by decide) ?_
    refine sv_dup2 dX5_keep_123 rfl rfl ?_
    refine sv_iald dX5_keep_124 hsh.l1 hsh.s1 (by omega) ?_
    rw [hm7, v580]
    refine sv_iconst dX5_keep_125 ?_
    refine sv_iadd dX5_keep_126 ?_
    refine sv_iast dX5_keep_127 hsh.l1 hsh.s1 (by omega) (by first | omega | exact hin _ _ | decide | (simp [sv_u, sv_row]; omega) | (simp [sv_u, sv_row]; exact hin _ _) | exact hin1 _ _ | (simp [sv_u, sv_row]; exact hin1 _ _)) ?_
    refine sv_aload_n (i := 0) dX5_keep_128 rfl rfl ?_
    refine sv_getR (kz := 0) flX5_7 dX5_keep_129 rfl rfl hsh.lt hsh.k hsh.r1 ?_
    refine sv_sipush dX5_keep_132 (by decide) ?_
    refine sv_aload_n (i := 0) dX5_keep_135 rfl rfl ?_
    refine sv_getR (kz := 0) flX5_7 dX5_keep_136 rfl rfl hsh.lt hsh.k hsh.r1 ?_
    refine sv_sipush dX5_keep_139 (by decide) ?_
    refine sv_iald dX5_keep_142 hsh.l1 hsh.s1 (by omega) ?_
    rw [show sv_u f7 (o + 1) 580 (m 580 + 1) (o + 1) 581 = m 581 by simp [sv_u, hm7, v581]]
    refine sv_iast dX5_keep_143 hsh.l1 hsh.s1 (by omega) (by first | omega | exact hin _ _ | decide | (simp [sv_u, sv_row]; omega) | (simp [sv_u, sv_row]; exact hin _ _) | exact hin1 _ _ | (simp [sv_u, sv_row]; exact hin1 _ _)) ?_
    refine sv_aload_n (i := 0) dX5_keep_144 rfl rfl ?_
    refine sv_getR (kz := 0) flX5_7 dX5_keep_145 rfl rfl hsh.lt hsh.k hsh.r1 ?_
    refine sv_sipush dX5_keep_148 (by decide) ?_
    refine sv_dup2 dX5_keep_151 rfl rfl ?_
    refine sv_iald dX5_keep_152 hsh.l1 hsh.s1 (by omega) ?_
    rw [show sv_u (sv_u f7 (o + 1) 580 (m 580 + 1)) (o + 1) 595 (m 581) (o + 1) 581 = m 581 by simp [sv_u, hm7, v581]]
    refine sv_iconst dX5_keep_153 ?_
    refine sv_iadd dX5_keep_154 ?_
    refine sv_iast dX5_keep_155 hsh.l1 hsh.s1 (by omega) (by first | omega | exact hin _ _ | decide | (simp [sv_u, sv_row]; omega) | (simp [sv_u, sv_row]; exact hin _ _) | exact hin1 _ _ | (simp [sv_u, sv_row]; exact hin1 _ _)) ?_
    refine sv_aload_n (i := 0) dX5_keep_156 rfl rfl ?_
    refine sv_getR (kz := 0) flX5_7 dX5_keep_157 rfl rfl hsh.lt hsh.k hsh.r1 ?_
    refine sv_sipush dX5_keep_160 (by decide) ?_
    refine sv_iald dX5_keep_163 hsh.l1 hsh.s1 (by omega) ?_
    refine sv_ireturn dX5_keep_164 rfl ?_
    have hfin : sv_u (sv_u (sv_u f7 (o + 1) 580 (m 580 + 1)) (o + 1) 595 (m 581)) (o + 1) 581 (m 581 + 1) = sv_row f7 (o + 1) (sp_up (sp_up (sp_up m5 580 (m 580 + 1)) 595 (m 581)) 581 (m 581 + 1)) := by
      simp only [sv_u_row, sv_row_row, sv_row_eq, hm7]
    refine ⟨_, rfl, rfl, rfl, rfl, Or.inr ⟨hnf, ?_, ⟨fun x hx => ?_, ?_, ?_, ?_, ?_⟩, ?_⟩⟩
    · simp [sv_u]
    · rw [hfin, sv_row_ne (by omega), n7 x (by omega), hsq3.1 x (by omega) (by omega) (by omega) (by omega) (by omega) (by omega) (by omega), e3 x (by omega) (by omega), k1 x (by omega) (by omega)]
    · rw [hfin, sv_row_ne (by omega), n7 (o + 7) (by omega), hsq3.t, e3 (o + 7) (by omega) (by omega), k1 (o + 7) (by omega) (by omega)]
    · rw [hfin, sv_row_ne (by omega), n7 o (by omega), hsq3.2.2, e4 10 (by omega), k2 10 (by omega)]
    · rw [hfin, sv_row_ne (by omega), n7 (o + 2) (by omega), hsq3.p, e3 (o + 2) (by omega) (by omega), k3]
    · rw [hfin, sv_row_ne (by omega), n7 o (by omega), hsq3.2.1, e4 2 (by omega), k4]
    · rw [hfin, sv_row_eq]
      exact sp_keep_of (by omega) hgf b1 b2 b3 b4 b5 b6
  have hcc := hw.c
  have hcm := hw.cm
  have hgf := hg.f
  have hgo := hg.o
  have horg : -1 ≤ m 595 ∧ m 595 < 99 := by
    rcases hgo with h | ⟨h1, h2, h3⟩
    · omega
    · obtain ⟨s0, s1, s2⟩ := sp_slot_in h2
      have := hw.num s0 s1
      omega
  refine sv_aload_n (i := 0) dX5_keep_0 rfl rfl ?_
  refine sv_getR (kz := 0) flX5_7 dX5_keep_1 rfl rfl hsh.lt hsh.k hsh.r1 ?_
  refine sv_sipush dX5_keep_4 (by decide) ?_
  refine sv_iald dX5_keep_7 hsh.l1 hsh.s1 (by omega) ?_
  rw [hm]
  refine sv_bipush dX5_keep_8 (by decide) ?_
  refine sv_icmp_eq (tgt := 26) dX5_keep_10 (by decide) (by omega) (by omega) (fun h_10 => ?_) (fun h_10 => ?_)
  · refine sv_bipush dX5_keep_26 (by decide) ?_
    refine sv_ireturn dX5_keep_28 rfl ?_
    exact ⟨_, rfl, rfl, rfl, rfl, Or.inl ⟨by omega, rfl, rfl⟩⟩
  · refine sv_aload_n (i := 0) dX5_keep_13 rfl rfl ?_
    refine sv_getR (kz := 0) flX5_7 dX5_keep_14 rfl rfl hsh.lt hsh.k hsh.r1 ?_
    refine sv_sipush dX5_keep_17 (by decide) ?_
    refine sv_iald dX5_keep_20 hsh.l1 hsh.s1 (by omega) ?_
    rw [hm]
    refine sv_bipush dX5_keep_21 (by decide) ?_
    refine sv_icmp_ne (tgt := 29) dX5_keep_23 (by decide) (by omega) (by omega) (fun h_23 => ?_) (fun h_23 => ?_)
    · refine sv_aload_n (i := 0) dX5_keep_29 rfl rfl ?_
      refine sv_vv0 (As := []) clX5_137 dX5_keep_30 ⟨_, rfl, rfl⟩ (by decide) rfl (Nat.le_of_ble_eq_true rfl) (by decide) (by decide) hsh.lt hsh.k (c_X5_keeps hsh hu) (fun f1 hf1 => ?_)
      have k1 : ∀ x, x ≠ o → x ≠ o + 2 → f1 x = f x := fun x a1 a2 => by rw [hf1, sv_u_ne a1, sv_row_ne a2]
      have k2 : ∀ j, j ≠ 2 → f1 o j = f o j := fun j a1 => by rw [hf1]; simp [sv_u, sv_row, a1]
      have k3 : f1 (o + 2) = sp_kpast (f (o + 1)) (f (o + 2)) (f o 2) := by rw [hf1, sv_u_ne (by omega), sv_row_eq]; rfl
      have k4 : f1 o 2 = sp_ku (f o 2) := by rw [hf1]; simp [sv_u]; rfl
      clear hf1
      have hm1 : f1 (o + 1) = m := by rw [k1 (o + 1) (by omega) (by omega)]; exact hm
      refine sv_aload_n (i := 0) dX5_keep_33 rfl rfl ?_
      refine sv_vv0 (As := []) clX5_143 dX5_keep_34 ⟨_, rfl, rfl⟩ (by decide) rfl (Nat.le_of_ble_eq_true rfl) (by decide) (by decide) hsh.lt hsh.k (c_X5_takesGame hsh) (fun f2 hf2 => ?_)
      have e1 : f2 o 4 = m 582 := by rw [hf2]; simp [sv_u, hm1]
      have e2 : ∀ j, 0 ≤ j → j < 12 → f2 (o + 3) j = sp_gv m j := fun j a1 a2 => by
        rw [hf2]
        simp [sv_row, sv_u, a1, a2, hm1, sp_gv]
      have hok2 : sp_ok (f2 (o + 3)) (6 + 2 * m 582) := fun j a1 a2 => by rw [e2 j a1 (by omega)]; exact hg.v j a1 a2
      have e3 : ∀ x, x ≠ o → x ≠ o + 3 → f2 x = f1 x := fun x a1 a2 => by rw [hf2, sv_u_ne a1, sv_row_ne a2]
      have e4 : ∀ j, j ≠ 4 → f2 o j = f1 o j := fun j a1 => by rw [hf2]; simp [sv_u, sv_row, a1]
      have hm2 : f2 (o + 1) = m := by rw [e3 (o + 1) (by omega) (by omega)]; exact hm1
      clear hf2
      refine sv_aload_n (i := 0) dX5_keep_37 rfl rfl ?_
      refine sv_vp0 (As := []) clX5_73 dX5_keep_38 ⟨_, rfl, rfl⟩ (by decide) rfl (Nat.le_of_ble_eq_true rfl) (by decide) (by decide) hsh.lt hsh.k (c_X5_sumNow (v := f2 (o + 3)) (fm := m 582) hsh rfl e1 hgf hok2) ?_
      have hsum : sp_sm (f2 (o + 3)) (6 + 2 * m 582).toNat = sp_sm (sp_gv m) (6 + 2 * m 582).toNat := sp_sm_congr (fun j a1 a2 => e2 j a1 (by omega))
      have hsmi := sp_sm_in (sp_gv m) (6 + 2 * m 582).toNat
      rw [hsum]
      refine sv_istore_n (i := 1) dX5_keep_41 rfl (by decide) rfl ?_
      refine sv_aload_n (i := 0) dX5_keep_42 rfl rfl ?_
      refine sv_vi0 (As := []) clX5_158 dX5_keep_43 ⟨_, rfl, rfl⟩ (by decide) rfl (Nat.le_of_ble_eq_true rfl) (by decide) (by decide) hsh.lt hsh.k (c_X5_isNear hsh hm2 hw hg) (fun a f3 hf3 => ?_)
      obtain ⟨hnr, hwv, hsq3⟩ := hf3
      have ha01 : a = 0 ∨ a = 1 := by rcases hnr with ⟨h, -⟩ | ⟨h, -⟩ <;> omega
      have hm3 : f3 (o + 1) = m := hsq3.m.trans hm2
      refine sv_istore_n (i := 2) dX5_keep_46 rfl (by decide) rfl ?_
      refine sv_aload_n (i := 0) dX5_keep_47 rfl rfl ?_
      refine sv_getR (kz := 0) flX5_7 dX5_keep_48 rfl rfl hsh.lt hsh.k hsh.r1 ?_
      refine sv_sipush dX5_keep_51 (by decide) ?_
      refine sv_iald dX5_keep_54 hsh.l1 hsh.s1 (by omega) ?_
      rw [hm3]
      refine sv_istore_n (i := 3) dX5_keep_55 rfl (by decide) rfl ?_
      refine sv_aload_n (i := 0) dX5_keep_56 rfl rfl ?_
      refine sv_iload_n (i := 3) dX5_keep_57 rfl rfl ?_
      refine sv_iconst dX5_keep_58 ?_
      refine sv_aload_n (i := 0) dX5_keep_59 rfl rfl ?_
      refine sv_getR (kz := 0) flX5_7 dX5_keep_60 rfl rfl hsh.lt hsh.k hsh.r1 ?_
      refine sv_sipush dX5_keep_63 (by decide) ?_
      refine sv_iald dX5_keep_66 hsh.l1 hsh.s1 (by omega) ?_
      rw [hm3]
      refine sv_vv0 (As := [_, _, _]) clX5_77 dX5_keep_67 ⟨_, rfl, rfl⟩ (by decide) rfl (Nat.le_of_ble_eq_true rfl) (by decide) (by decide) hsh.lt hsh.k (c_X5_put hsh _ _ _ (by omega) (by omega)) (fun f4 hf4 => ?_)
      have hm4 : f4 (o + 1) = sp_up m (29 * m 580 + 0) (m 581) := by rw [hf4, sv_u_row, sv_row_eq, hm3]
      have n4 : ∀ x, x ≠ o + 1 → f4 x = f3 x := fun x a1 => by rw [hf4, sv_u_ne a1]
      refine sv_aload_n (i := 0) dX5_keep_70 rfl rfl ?_
      refine sv_iload_n (i := 3) dX5_keep_71 rfl rfl ?_
      refine sv_iconst dX5_keep_72 ?_
      refine sv_aload_n (i := 0) dX5_keep_73 rfl rfl ?_
      refine sv_getR (kz := 0) flX5_7 dX5_keep_74 rfl rfl hsh.lt hsh.k hsh.r1 ?_
      refine sv_sipush dX5_keep_77 (by decide) ?_
      refine sv_iald dX5_keep_80 hsh.l1 hsh.s1 (by omega) ?_
      rw [hm4, show sp_up m (29 * m 580 + 0) (m 581) 582 = m 582 by unfold sp_up; rw [if_neg (by omega)]]
      refine sv_vv0 (As := [_, _, _]) clX5_77 dX5_keep_81 ⟨_, rfl, rfl⟩ (by decide) rfl (Nat.le_of_ble_eq_true rfl) (by decide) (by decide) hsh.lt hsh.k (c_X5_put hsh _ _ _ (by omega) (by omega)) (fun f5 hf5 => ?_)
      have hm5 : f5 (o + 1) = sp_up (sp_up m (29 * m 580 + 0) (m 581)) (29 * m 580 + 1) (m 582) := by rw [hf5, sv_u_row, sv_row_eq, hm4]
      have n5 : ∀ x, x ≠ o + 1 → f5 x = f3 x := fun x a1 => by rw [hf5, sv_u_ne a1]; exact n4 x a1
      refine sv_aload_n (i := 0) dX5_keep_84 rfl rfl ?_
      refine sv_iload_n (i := 3) dX5_keep_85 rfl rfl ?_
      refine sv_iconst dX5_keep_86 ?_
      refine sv_iload_n (i := 1) dX5_keep_87 rfl rfl ?_
      refine sv_vv0 (As := [_, _, _]) clX5_77 dX5_keep_88 ⟨_, rfl, rfl⟩ (by decide) rfl (Nat.le_of_ble_eq_true rfl) (by decide) (by decide) hsh.lt hsh.k (c_X5_put hsh _ _ _ (by omega) (by omega)) (fun f6 hf6 => ?_)
      have hm6 : f6 (o + 1) = sp_up (sp_up (sp_up m (29 * m 580 + 0) (m 581)) (29 * m 580 + 1) (m 582)) (29 * m 580 + 2) (sp_sm (sp_gv m) (6 + 2 * m 582).toNat) := by rw [hf6, sv_u_row, sv_row_eq, hm5]
      have n6 : ∀ x, x ≠ o + 1 → f6 x = f3 x := fun x a1 => by rw [hf6, sv_u_ne a1]; exact n5 x a1
      clear hf6 hf5 hf4
      obtain ⟨m6, hm6'⟩ : ∃ m6, m6 = f6 (o + 1) := ⟨_, rfl⟩
      have g0 : ∀ j, ¬ (29 * m 580 ≤ j ∧ j < 29 * m 580 + 3) → m6 j = m j := fun j a1 => by
        rw [hm6', hm6]
        unfold sp_up
        rw [if_neg (by omega), if_neg (by omega), if_neg (by omega)]
      have g1 : m6 (29 * m 580) = m 581 := by
        rw [hm6', hm6]
        unfold sp_up
        rw [if_neg (by omega), if_neg (by omega), if_pos (by omega)]
      have g2 : m6 (29 * m 580 + 1) = m 582 := by
        rw [hm6', hm6]
        unfold sp_up
        rw [if_neg (by omega), if_pos rfl]
      have g3 : m6 (29 * m 580 + 2) = sp_sm (sp_gv m) (6 + 2 * m 582).toNat := by
        rw [hm6', hm6]
        unfold sp_up
        rw [if_pos rfl]
      have hm6g : f6 (o + 1) (29 * m 580 + 1) = m 582 := by rw [← hm6']; exact g2
      clear hm6
      refine sv_iload_n (i := 2) dX5_keep_91 rfl rfl ?_
      refine sv_if_eq (tgt := 111) dX5_keep_92 (by decide) (by first | omega | exact hin _ _ | decide | (simp [sv_u, sv_row]; omega) | (simp [sv_u, sv_row]; exact hin _ _) | exact hin1 _ _ | (simp [sv_u, sv_row]; exact hin1 _ _)) (fun h_92 => ?_) (fun h_92 => ?_)
      · refine sv_aload_n (i := 0) dX5_keep_111 rfl rfl ?_
        refine sv_iload_n (i := 3) dX5_keep_112 rfl rfl ?_
        refine sv_vv0 (As := [_]) clX5_164 dX5_keep_113 ⟨_, rfl, rfl⟩ (by decide) rfl (Nat.le_of_ble_eq_true rfl) (by decide) (by decide) hsh.lt hsh.k (c_X5_writesWhole hsh _ (by omega) (by rw [hm6g]; exact hgf)) (fun f7 hf7 => ?_)
        have n7 : ∀ x, x ≠ o + 1 → f7 x = f3 x := fun x a1 => by rw [hf7, sv_row_ne a1]; exact n6 x a1
        have z6 := congrFun hf7 (o + 1)
        rw [sv_row_eq, hm6g, ← hm6', n6 (o + 6) (by omega)] at z6
        try rw [n6 (o + 3) (by omega)] at z6
        have hwl : ∀ j, 0 ≤ j → j < 6 + 2 * m 582 → f3 (o + 6) j = sp_gv m j := fun j a1 a2 => hwv j a1 (by omega)
        first
          | (exfalso; omega)
          | (have hnn : ¬ sp_near m := by rcases hnr with ⟨h, -⟩ | ⟨-, h⟩ <;> first | (exfalso; omega) | exact h
             exact sv_wk (h116 f1 f2 f3 f7 _ k1 k2 k3 k4 e3 e4 hsq3 n7 z6 (fun j a1 => by rw [sp_ww_out (by omega)]; exact g0 j (by omega)) (by rw [sp_ww_out (by omega)]; exact g1) (by rw [sp_ww_out (by omega)]; exact g2) (by rw [sp_ww_out (by omega)]; exact g3) (fun h => absurd h hnn) (fun _ => sp_rowW_cg hwl (sp_ww_row (by omega))) (by omega)) (by simp [sv_sub, sv_ent, sv_lng]) rfl)
          | (have hnn : sp_near m ∧ ∀ j, 0 ≤ j → j < 6 + 2 * m 582 → f3 (o + 3) j = sp_rz (sp_V m (m 595)) (m (29 * sp_slot m (m 595) + 1)) (m 582) j := by rcases hnr with ⟨-, h1, h2⟩ | ⟨h, -⟩ <;> first | (exfalso; omega) | exact ⟨h1, h2⟩
             exact sv_wk (h116 f1 f2 f3 f7 _ k1 k2 k3 k4 e3 e4 hsq3 n7 z6 (fun j a1 => by rw [sp_rowD_out (by omega) (by omega)]; exact g0 j (by omega)) (by rw [sp_rowD_out (by omega) (by omega)]; exact g1) (by rw [sp_rowD_out (by omega) (by omega)]; exact g2) (by rw [sp_rowD_out (by omega) (by omega)]; exact g3) (fun _ => sp_rowD_of (by omega) (by omega) hnn.2 hwl) (fun h => absurd hnn.1 h) (by omega)) (by simp [sv_sub, sv_ent, sv_lng]) rfl)
      · refine sv_aload_n (i := 0) dX5_keep_95 rfl rfl ?_
        refine sv_iload_n (i := 3) dX5_keep_96 rfl rfl ?_
        refine sv_aload_n (i := 0) dX5_keep_97 rfl rfl ?_
        refine sv_getR (kz := 0) flX5_7 dX5_keep_98 rfl rfl hsh.lt hsh.k hsh.r1 ?_
        refine sv_sipush dX5_keep_101 (by decide) ?_
        refine sv_iald dX5_keep_104 hsh.l1 hsh.s1 (by omega) ?_
        rw [show f6 (o + 1) 595 = m 595 by rw [← hm6']; exact g0 595 (by omega)]
        refine sv_vv0 (As := [_, _]) clX5_161 dX5_keep_105 ⟨_, rfl, rfl⟩ (by decide) rfl (Nat.le_of_ble_eq_true rfl) (by decide) (by decide) hsh.lt hsh.k (c_X5_writesDifference hsh _ _ (by omega) (by omega) (by rw [hm6g]; exact hgf)) (fun f7 hf7 => ?_)
        refine sv_goto (tgt := 116) dX5_keep_108 (by decide) ?_
        have n7 : ∀ x, x ≠ o + 1 → f7 x = f3 x := fun x a1 => by rw [hf7, sv_row_ne a1]; exact n6 x a1
        have z6 := congrFun hf7 (o + 1)
        rw [sv_row_eq, hm6g, ← hm6', n6 (o + 6) (by omega)] at z6
        try rw [n6 (o + 3) (by omega)] at z6
        have hwl : ∀ j, 0 ≤ j → j < 6 + 2 * m 582 → f3 (o + 6) j = sp_gv m j := fun j a1 a2 => hwv j a1 (by omega)
        first
          | (exfalso; omega)
          | (have hnn : ¬ sp_near m := by rcases hnr with ⟨h, -⟩ | ⟨-, h⟩ <;> first | (exfalso; omega) | exact h
             exact sv_wk (h116 f1 f2 f3 f7 _ k1 k2 k3 k4 e3 e4 hsq3 n7 z6 (fun j a1 => by rw [sp_ww_out (by omega)]; exact g0 j (by omega)) (by rw [sp_ww_out (by omega)]; exact g1) (by rw [sp_ww_out (by omega)]; exact g2) (by rw [sp_ww_out (by omega)]; exact g3) (fun h => absurd h hnn) (fun _ => sp_rowW_cg hwl (sp_ww_row (by omega))) (by omega)) (by simp [sv_sub, sv_ent, sv_lng]) rfl)
          | (have hnn : sp_near m ∧ ∀ j, 0 ≤ j → j < 6 + 2 * m 582 → f3 (o + 3) j = sp_rz (sp_V m (m 595)) (m (29 * sp_slot m (m 595) + 1)) (m 582) j := by rcases hnr with ⟨-, h1, h2⟩ | ⟨h, -⟩ <;> first | (exfalso; omega) | exact ⟨h1, h2⟩
             exact sv_wk (h116 f1 f2 f3 f7 _ k1 k2 k3 k4 e3 e4 hsq3 n7 z6 (fun j a1 => by rw [sp_rowD_out (by omega) (by omega)]; exact g0 j (by omega)) (by rw [sp_rowD_out (by omega) (by omega)]; exact g1) (by rw [sp_rowD_out (by omega) (by omega)]; exact g2) (by rw [sp_rowD_out (by omega) (by omega)]; exact g3) (fun _ => sp_rowD_of (by omega) (by omega) hnn.2 hwl) (fun h => absurd hnn.1 h) (by omega)) (by simp [sv_sub, sv_ent, sv_lng]) rfl)
    · refine sv_bipush dX5_keep_26 (by decide) ?_
      refine sv_ireturn dX5_keep_28 rfl ?_
      exact ⟨_, rfl, rfl, rfl, rfl, Or.inl ⟨by omega, rfl, rfl⟩⟩
