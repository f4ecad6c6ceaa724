set_option maxRecDepth 100000 in
set_option maxHeartbeats 4000000 in
theorem c_X5_count {X : sv_X} {S : sv_S} {f : sv_F} {r : sv_R} {g : sv_G} {o : Nat} {m : Int → Int} (hsh : sv_M5 S r o) (hm : f (o + 1) = m) (hw : sp_wt m) (hg : sp_wg m) (w : Int) (hwi : sv_in w) : sv_C X 5 MX5_count 0 0 [sv_r o, sv_i w] S f r g (sv_qi (fun a f' => a = sp_count m (f o 2) (f o 10) w ∧ sp_sq o f f') S r g) := by
  refine sv_met (by decide) (by simp [lg_sl, sv_cv, va_rf, Value.category]) ?_
  refine sv_fr fun hin => ?_
  have hcc := hw.c
  have hgf := hg.f
  refine sv_iload_n (i := 1) dX5_count_0 rfl rfl ?_
  by_cases hk0 : w = 0
  · subst hk0
    refine sv_tsw (tgt := 68) (off := 67) dX5_count_1 (by omega) (by omega) (by omega) rfl (by decide) ?_
    refine sv_aload_n (i := 0) dX5_count_68 rfl rfl ?_
    refine sv_getR (kz := 0) flX5_7 dX5_count_69 rfl rfl hsh.lt hsh.k hsh.r1 ?_
    refine sv_sipush dX5_count_72 (by decide) ?_
    refine sv_iald dX5_count_75 hsh.l1 hsh.s1 (by omega) ?_
    refine sv_ireturn dX5_count_76 rfl ?_
    exact ⟨_, rfl, rfl, rfl, rfl, by simp [sp_count, hm], sp_sq.rf⟩
  by_cases hk1 : w = 1
  · subst hk1
    refine sv_tsw (tgt := 77) (off := 76) dX5_count_1 (by omega) (by omega) (by omega) rfl (by decide) ?_
    refine sv_aload_n (i := 0) dX5_count_77 rfl rfl ?_
    refine sv_getR (kz := 0) flX5_7 dX5_count_78 rfl rfl hsh.lt hsh.k hsh.r1 ?_
    refine sv_sipush dX5_count_81 (by decide) ?_
    refine sv_iald dX5_count_84 hsh.l1 hsh.s1 (by omega) ?_
    refine sv_ireturn dX5_count_85 rfl ?_
    exact ⟨_, rfl, rfl, rfl, rfl, by simp [sp_count, hm], sp_sq.rf⟩
  by_cases hk2 : w = 2
  · subst hk2
    refine sv_tsw (tgt := 86) (off := 85) dX5_count_1 (by omega) (by omega) (by omega) rfl (by decide) ?_
    refine sv_aload_n (i := 0) dX5_count_86 rfl rfl ?_
    refine sv_vv0 (As := []) clX5_143 dX5_count_87 ⟨_, rfl, rfl⟩ (by decide) rfl (Nat.le_of_ble_eq_true rfl) (by decide) (by decide) hsh.lt hsh.k (c_X5_takesGame hsh) (fun f1 hf1 => ?_)
    have e1 : f1 o 4 = m 582 := by rw [hf1]; simp [sv_u, hm]
    have e2 : ∀ j, 0 ≤ j → j < 12 → f1 (o + 3) j = sp_gv m j := fun j a1 a2 => by
      rw [hf1]
      simp [sv_row, sv_u, a1, a2, hm, sp_gv]
    have e3 : sp_ok (f1 (o + 3)) (6 + 2 * m 582) := fun j a1 a2 => by rw [e2 j a1 (by omega)]; exact hg.v j a1 a2
    have e4 : sp_sq o f f1 := by subst hf1; exact ⟨fun x a1 a2 a3 a4 a5 a6 a7 => by rw [sv_u_ne a1, sv_row_ne a2], by simp [sv_u, sv_row], by simp [sv_u, sv_row]⟩
    refine sv_aload_n (i := 0) dX5_count_90 rfl rfl ?_
    refine sv_vp0 (As := []) clX5_73 dX5_count_91 ⟨_, rfl, rfl⟩ (by decide) rfl (Nat.le_of_ble_eq_true rfl) (by decide) (by decide) hsh.lt hsh.k (c_X5_sumNow (v := f1 (o + 3)) (fm := m 582) hsh rfl e1 hgf e3) ?_
    refine sv_ireturn dX5_count_94 rfl ?_
    exact ⟨_, rfl, rfl, rfl, rfl, by simp [sp_count]; exact sp_sm_congr (fun j a1 a2 => e2 j a1 (by omega)), e4⟩
  by_cases hk3 : w = 3
  · subst hk3
    refine sv_tsw (tgt := 95) (off := 94) dX5_count_1 (by omega) (by omega) (by omega) rfl (by decide) ?_
    refine sv_aload_n (i := 0) dX5_count_95 rfl rfl ?_
    refine sv_getR (kz := 0) flX5_7 dX5_count_96 rfl rfl hsh.lt hsh.k hsh.r1 ?_
    refine sv_sipush dX5_count_99 (by decide) ?_
    refine sv_iald dX5_count_102 hsh.l1 hsh.s1 (by omega) ?_
    refine sv_ireturn dX5_count_103 rfl ?_
    exact ⟨_, rfl, rfl, rfl, rfl, by simp [sp_count, hm], sp_sq.rf⟩
  by_cases hk4 : w = 4
  · subst hk4
    refine sv_tsw (tgt := 104) (off := 103) dX5_count_1 (by omega) (by omega) (by omega) rfl (by decide) ?_
    refine sv_aload_n (i := 0) dX5_count_104 rfl rfl ?_
    refine sv_iload_n (i := 1) dX5_count_105 rfl rfl ?_
    refine sv_vi0 (As := [_]) clX5_188 dX5_count_106 ⟨_, rfl, rfl⟩ (by decide) rfl (Nat.le_of_ble_eq_true rfl) (by decide) (by decide) hsh.lt hsh.k (c_X5_counts hsh hm hw _ (by omega)) (fun a f1 hf1 => ?_)
    refine sv_ireturn dX5_count_109 rfl ?_
    exact ⟨_, rfl, rfl, rfl, rfl, by simp [sp_count]; simpa using hf1.1, hf1.2⟩
  by_cases hk5 : w = 5
  · subst hk5
    refine sv_tsw (tgt := 104) (off := 103) dX5_count_1 (by omega) (by omega) (by omega) rfl (by decide) ?_
    refine sv_aload_n (i := 0) dX5_count_104 rfl rfl ?_
    refine sv_iload_n (i := 1) dX5_count_105 rfl rfl ?_
    refine sv_vi0 (As := [_]) clX5_188 dX5_count_106 ⟨_, rfl, rfl⟩ (by decide) rfl (Nat.le_of_ble_eq_true rfl) (by decide) (by decide) hsh.lt hsh.k (c_X5_counts hsh hm hw _ (by omega)) (fun a f1 hf1 => ?_)
    refine sv_ireturn dX5_count_109 rfl ?_
    exact ⟨_, rfl, rfl, rfl, rfl, by simp [sp_count]; simpa using hf1.1, hf1.2⟩
  by_cases hk6 : w = 6
  · subst hk6
    refine sv_tsw (tgt := 110) (off := 109) dX5_count_1 (by omega) (by omega) (by omega) rfl (by decide) ?_
    refine sv_aload_n (i := 0) dX5_count_110 rfl rfl ?_
    refine sv_vp0 (As := []) clX5_176 dX5_count_111 ⟨_, rfl, rfl⟩ (by decide) rfl (Nat.le_of_ble_eq_true rfl) (by decide) (by decide) hsh.lt hsh.k (c_X5_weights hsh hm hw) ?_
    refine sv_ireturn dX5_count_114 rfl ?_
    exact ⟨_, rfl, rfl, rfl, rfl, by simp [sp_count, hm], sp_sq.rf⟩
  by_cases hk7 : w = 7
  · subst hk7
    refine sv_tsw (tgt := 115) (off := 114) dX5_count_1 (by omega) (by omega) (by omega) rfl (by decide) ?_
    refine sv_aload_n (i := 0) dX5_count_115 rfl rfl ?_
    refine sv_getR (kz := 0) flX5_7 dX5_count_116 rfl rfl hsh.lt hsh.k hsh.r1 ?_
    refine sv_sipush dX5_count_119 (by decide) ?_
    refine sv_iald dX5_count_122 hsh.l1 hsh.s1 (by omega) ?_
    refine sv_ireturn dX5_count_123 rfl ?_
    exact ⟨_, rfl, rfl, rfl, rfl, by simp [sp_count, hm], sp_sq.rf⟩
  by_cases hk8 : w = 8
  · subst hk8
    refine sv_tsw (tgt := 124) (off := 123) dX5_count_1 (by omega) (by omega) (by omega) rfl (by decide) ?_
    refine sv_aload_n (i := 0) dX5_count_124 rfl rfl ?_
    refine sv_vi0 (As := []) clX5_191 dX5_count_125 ⟨_, rfl, rfl⟩ (by decide) rfl (Nat.le_of_ble_eq_true rfl) (by decide) (by decide) hsh.lt hsh.k (c_X5_longest hsh hm hw) (fun a f1 hf1 => ?_)
    refine sv_ireturn dX5_count_128 rfl ?_
    exact ⟨_, rfl, rfl, rfl, rfl, by simp [sp_count]; exact hf1.1, hf1.2⟩
  by_cases hk9 : w = 9
  · subst hk9
    refine sv_tsw (tgt := 129) (off := 128) dX5_count_1 (by omega) (by omega) (by omega) rfl (by decide) ?_
    refine sv_aload_n (i := 0) dX5_count_129 rfl rfl ?_
    refine sv_getI (kz := 2) flX5_42 dX5_count_130 rfl rfl hsh.lt hsh.k ?_
    refine sv_ireturn dX5_count_133 rfl ?_
    exact ⟨_, rfl, rfl, rfl, rfl, by simp [sp_count, hm], sp_sq.rf⟩
  by_cases hk10 : w = 10
  · subst hk10
    refine sv_tsw (tgt := 134) (off := 133) dX5_count_1 (by omega) (by omega) (by omega) rfl (by decide) ?_
    refine sv_aload_n (i := 0) dX5_count_134 rfl rfl ?_
    refine sv_getI (kz := 10) flX5_85 dX5_count_135 rfl rfl hsh.lt hsh.k ?_
    refine sv_ireturn dX5_count_138 rfl ?_
    exact ⟨_, rfl, rfl, rfl, rfl, by simp [sp_count, hm], sp_sq.rf⟩
  by_cases hk11 : w = 11
  · subst hk11
    refine sv_tsw (tgt := 139) (off := 138) dX5_count_1 (by omega) (by omega) (by omega) rfl (by decide) ?_
    refine sv_aload_n (i := 0) dX5_count_139 rfl rfl ?_
    refine sv_getR (kz := 0) flX5_7 dX5_count_140 rfl rfl hsh.lt hsh.k hsh.r1 ?_
    refine sv_sipush dX5_count_143 (by decide) ?_
    refine sv_iload_n (i := 1) dX5_count_146 rfl rfl ?_
    refine sv_iadd dX5_count_147 ?_
    refine sv_bipush dX5_count_148 (by decide) ?_
    refine sv_isub dX5_count_150 ?_
    refine sv_iald dX5_count_151 hsh.l1 hsh.s1 (by omega) ?_
    refine sv_ireturn dX5_count_152 rfl ?_
    exact ⟨_, rfl, rfl, rfl, rfl, by simp [sp_count, hm], sp_sq.rf⟩
  by_cases hk12 : w = 12
  · subst hk12
    refine sv_tsw (tgt := 139) (off := 138) dX5_count_1 (by omega) (by omega) (by omega) rfl (by decide) ?_
    refine sv_aload_n (i := 0) dX5_count_139 rfl rfl ?_
    refine sv_getR (kz := 0) flX5_7 dX5_count_140 rfl rfl hsh.lt hsh.k hsh.r1 ?_
    refine sv_sipush dX5_count_143 (by decide) ?_
    refine sv_iload_n (i := 1) dX5_count_146 rfl rfl ?_
    refine sv_iadd dX5_count_147 ?_
    refine sv_bipush dX5_count_148 (by decide) ?_
    refine sv_isub dX5_count_150 ?_
    refine sv_iald dX5_count_151 hsh.l1 hsh.s1 (by omega) ?_
    refine sv_ireturn dX5_count_152 rfl ?_
    exact ⟨_, rfl, rfl, rfl, rfl, by simp [sp_count, hm], sp_sq.rf⟩
  refine sv_tswd (tgt := 153) dX5_count_1 (by omega) (by omega) (by decide) ?_
  refine sv_bipush dX5_count_153 (by decide) ?_
  refine sv_ireturn dX5_count_155 rfl ?_
  exact ⟨_, rfl, rfl, rfl, rfl, by simp [sp_count, *], sp_sq.rf⟩
set_option maxRecDepth 100000 in
set_option maxHeartbeats 4000000 in
theorem c_X5_isNear {X : sv_X} {S : sv_S} {f : sv_F} {r : sv_R} {g : sv_G} {o : Nat} {m : Int → Int} (hsh : sv_M5 S r o) (hm : f (o + 1) = m) (hw : sp_wt m) (hg : sp_wg m) : sv_C X 4 MX5_isNear 0 0 [sv_r o] S f r g (sv_qi (fun a f' => ((a = 1 ∧ sp_near m ∧ ∀ j, 0 ≤ j → j < 6 + 2 * m 582 → f' (o + 3) j = sp_rz (sp_V m (m 595)) (m (29 * sp_slot m (m 595) + 1)) (m 582) j) ∨ (a = 0 ∧ ¬ sp_near m)) ∧ (∀ j, 0 ≤ j → j < 12 → f' (o + 6) j = sp_gv m j) ∧ sp_sq o f f') S r g) := by
  refine sv_met (by decide) (by simp [lg_sl, sv_cv, va_rf, Value.category]) ?_
  refine sv_fr fun hin => ?_
  refine sv_aload_n (i := 0) dX5_isNear_0 rfl rfl ?_
  refine sv_vv0 (As := []) clX5_143 dX5_isNear_1 ⟨_, rfl, rfl⟩ (by decide) rfl (Nat.le_of_ble_eq_true rfl) (by decide) (by decide) hsh.lt hsh.k (c_X5_takesGame hsh) (fun f1 hf1 => ?_)
  refine sv_aload_n (i := 0) dX5_isNear_4 rfl rfl ?_
  refine sv_vv0 (As := []) clX5_149 dX5_isNear_5 ⟨_, rfl, rfl⟩ (by decide) rfl (Nat.le_of_ble_eq_true rfl) (by decide) (by decide) hsh.lt hsh.k (c_X5_setsAside hsh) (fun f2 hf2 => ?_)
  have q2 : sp_sq o f f2 := by
    subst hf2; subst hf1
    exact ⟨fun x a1 a2 a3 a4 a5 a6 a7 => by rw [sv_row_ne a5, sv_u_ne a1, sv_row_ne a2], by simp [sv_row, sv_u], by simp [sv_row, sv_u]⟩
  have hwv : ∀ j, 0 ≤ j → j < 12 → f2 (o + 6) j = sp_gv m j := fun j a1 a2 => by
    subst hf2; subst hf1
    simp [sv_row, sv_u, a1, a2, hm, sp_gv]
  have hm2 : f2 (o + 1) = m := q2.m.trans hm
  have hgf := hg.f
  have hgo := hg.o
  have hgl := hg.l
  have hcm := hw.cm
  refine sv_aload_n (i := 0) dX5_isNear_8 rfl rfl ?_
  refine sv_getR (kz := 0) flX5_7 dX5_isNear_9 rfl rfl hsh.lt hsh.k hsh.r1 ?_
  refine sv_sipush dX5_isNear_12 (by decide) ?_
  refine sv_iald dX5_isNear_15 hsh.l1 hsh.s1 (by omega) ?_
  rw [hm2]
  have horg : m 595 = -1 ∨ (0 ≤ m 595 ∧ m 595 < 99) := by
    rcases hgo with h | ⟨h1, h2, h3⟩
    · exact Or.inl h
    · obtain ⟨s0, s1, s2⟩ := sp_slot_in h2
      have := hw.num s0 s1
      omega
  refine sv_iconst dX5_isNear_16 ?_
  refine sv_icmp_eq (tgt := 50) dX5_isNear_17 (by decide) (by first | omega | exact hin _ _ | decide | (simp [sv_u, sv_row]; omega) | (simp [sv_u, sv_row]; exact hin _ _) | exact hin1 _ _ | (simp [sv_u, sv_row]; exact hin1 _ _)) (by first | omega | exact hin _ _ | decide | (simp [sv_u, sv_row]; omega) | (simp [sv_u, sv_row]; exact hin _ _) | exact hin1 _ _ | (simp [sv_u, sv_row]; exact hin1 _ _)) (fun h_17 => ?_) (fun h_17 => ?_)
  · refine sv_iconst dX5_isNear_50 ?_
    refine sv_zreturn dX5_isNear_51 rfl (by decide) ?_
    first
      | exact ⟨_, rfl, rfl, rfl, rfl, Or.inr ⟨rfl, fun h => absurd (by assumption) h.1⟩, hwv, q2⟩
      | exact ⟨_, rfl, rfl, rfl, rfl, Or.inr ⟨rfl, fun h => absurd h.2.1 (by assumption)⟩, (fun j a1 a2 => by rw [hf3.w]; exact hwv j a1 a2), q2.trans hf3.sq⟩
      | exact ⟨_, rfl, rfl, rfl, rfl, Or.inr ⟨rfl, fun h => by have := h.2.2.1; omega⟩, (fun j a1 a2 => by rw [hf3.w]; exact hwv j a1 a2), q2.trans hf3.sq⟩
  · refine sv_aload_n (i := 0) dX5_isNear_20 rfl rfl ?_
    refine sv_aload_n (i := 0) dX5_isNear_21 rfl rfl ?_
    refine sv_getR (kz := 0) flX5_7 dX5_isNear_22 rfl rfl hsh.lt hsh.k hsh.r1 ?_
    refine sv_sipush dX5_isNear_25 (by decide) ?_
    refine sv_iald dX5_isNear_28 hsh.l1 hsh.s1 (by omega) ?_
    rw [hm2]
    refine sv_vi0 (As := [_]) clX5_152 dX5_isNear_29 ⟨_, rfl, rfl⟩ (by decide) rfl (Nat.le_of_ble_eq_true rfl) (by decide) (by decide) hsh.lt hsh.k (c_X5_reads hsh hm2 hw _ (by omega)) (fun a f3 hf3 => ?_)
    obtain ⟨ha3, hf3⟩ := hf3
    subst ha3
    obtain ⟨hl1, hl2, hl3⟩ := hf3.l
    have hm3 : f3 (o + 1) = m := hf3.m.trans hm2
    have hslo : 0 ≤ m 595 ∧ sp_slot m (m 595) ≠ -1 ∧ m (29 * sp_slot m (m 595) + 1) ≤ m 582 := by omega
    refine sv_bif_eq (tgt := 50) dX5_isNear_32 (by decide) (fun h_32 => ?_) (fun h_32 => ?_)
    · refine sv_iconst dX5_isNear_50 ?_
      refine sv_zreturn dX5_isNear_51 rfl (by decide) ?_
      first
        | exact ⟨_, rfl, rfl, rfl, rfl, Or.inr ⟨rfl, fun h => absurd (by assumption) h.1⟩, hwv, q2⟩
        | exact ⟨_, rfl, rfl, rfl, rfl, Or.inr ⟨rfl, fun h => absurd h.2.1 (by assumption)⟩, (fun j a1 a2 => by rw [hf3.w]; exact hwv j a1 a2), q2.trans hf3.sq⟩
        | exact ⟨_, rfl, rfl, rfl, rfl, Or.inr ⟨rfl, fun h => by have := h.2.2.1; omega⟩, (fun j a1 a2 => by rw [hf3.w]; exact hwv j a1 a2), q2.trans hf3.sq⟩
    · refine sv_aload_n (i := 0) dX5_isNear_35 rfl rfl ?_
      refine sv_getI (kz := 7) flX5_56 dX5_isNear_36 rfl rfl hsh.lt hsh.k ?_
      rw [hl1]
      refine sv_aload_n (i := 0) dX5_isNear_39 rfl rfl ?_
      refine sv_getR (kz := 0) flX5_7 dX5_isNear_40 rfl rfl hsh.lt hsh.k hsh.r1 ?_
      refine sv_sipush dX5_isNear_43 (by decide) ?_
      refine sv_iald dX5_isNear_46 hsh.l1 hsh.s1 (by omega) ?_
      rw [hm3]
      refine sv_icmp_lt (tgt := 52) dX5_isNear_47 (by decide) (by first | omega | exact hin _ _ | decide | (simp [sv_u, sv_row]; omega) | (simp [sv_u, sv_row]; exact hin _ _) | exact hin1 _ _ | (simp [sv_u, sv_row]; exact hin1 _ _)) (by first | omega | exact hin _ _ | decide | (simp [sv_u, sv_row]; omega) | (simp [sv_u, sv_row]; exact hin _ _) | exact hin1 _ _ | (simp [sv_u, sv_row]; exact hin1 _ _)) (fun h_47 => ?_) (fun h_47 => ?_)
      · have hR : sp_R m (m 595) = -1 := by assumption
        obtain ⟨s0, s1, s2⟩ := sp_slot_in hslo.2.1
        have hfo := hw.frm s0 s1
        obtain ⟨z1, z2⟩ := hf3.2.2.1 hR
        have hokv := sp_V_ok' hw hR
        have hok3 : sp_ok (f3 (o + 3)) (6 + 2 * f3 o 4) := fun j a1 a2 => by
          rw [z1] at a2
          rw [z2 j a1 a2]
          exact hokv j a1 a2
        have hfm3 : 1 ≤ f3 o 4 ∧ f3 o 4 ≤ 3 := by rw [z1]; exact hfo
        refine sv_aload_n (i := 0) dX5_isNear_52 rfl rfl ?_
        refine sv_aload_n (i := 0) dX5_isNear_53 rfl rfl ?_
        refine sv_getR (kz := 0) flX5_7 dX5_isNear_54 rfl rfl hsh.lt hsh.k hsh.r1 ?_
        refine sv_sipush dX5_isNear_57 (by decide) ?_
        refine sv_iald dX5_isNear_60 hsh.l1 hsh.s1 (by omega) ?_
        rw [hm3]
        refine sv_vv0 (As := [_]) clX5_70 dX5_isNear_61 ⟨_, rfl, rfl⟩ (by decide) rfl (Nat.le_of_ble_eq_true rfl) (by decide) (by decide) hsh.lt hsh.k (c_X5_raisesTo hsh _ (by omega) (by omega) hfm3 (fun _ => hok3)) (fun f4 hf4 => ?_)
        have q4 : sp_sq o f f4 := (q2.trans hf3.sq).trans (by subst hf4; exact ⟨fun x a1 a2 a3 a4 a5 a6 a7 => by rw [sv_u_ne a1, sv_row_ne a2], by simp [sv_u, sv_row], by simp [sv_u, sv_row]⟩)
        have e4 : f4 o 4 = m 582 := by subst hf4; simp [sv_u]; rw [z1]; omega
        have q6 : ∀ j, 0 ≤ j → j < 6 + 2 * m 582 → f4 (o + 3) j = sp_rz (sp_V m (m 595)) (m (29 * sp_slot m (m 595) + 1)) (m 582) j := fun j a1 a2 => by
          subst hf4
          rw [sv_u_ne (by omega), sv_row_eq, z1]
          exact sp_rz_congr hfo.1 hslo.2.2 hgf.2 z2 j a1 a2
        have q7 : ∀ j, 0 ≤ j → j < 12 → f4 (o + 6) j = sp_gv m j := fun j a1 a2 => by
          subst hf4
          rw [sv_u_ne (by omega), sv_row_ne (by omega), hf3.w]
          exact hwv j a1 a2
        have hgd : sp_dn (f4 (o + 3)) (f4 (o + 6)) (6 + 2 * m 582).toNat = sp_gd m (m 595) := sp_dn_congr q6 (fun j a1 a2 => q7 j a1 (by omega))
        have hgi := sp_gd_in hgf (m 595)
        refine sv_aload_n (i := 0) dX5_isNear_64 rfl rfl ?_
        refine sv_aload_n (i := 0) dX5_isNear_65 rfl rfl ?_
        refine sv_getI (kz := 4) flX5_46 dX5_isNear_66 rfl rfl hsh.lt hsh.k ?_
        rw [e4]
        refine sv_sp0 (As := [_]) clX5_52 dX5_isNear_69 rfl (Nat.le_of_ble_eq_true rfl) (by decide) (by decide) (c_X5_valuesOf _) ?_
        refine sv_vp0 (As := [_]) clX5_155 dX5_isNear_72 ⟨_, rfl, rfl⟩ (by decide) rfl (Nat.le_of_ble_eq_true rfl) (by decide) (by decide) hsh.lt hsh.k (c_X5_differences hsh _ (by omega)) ?_
        rw [hgd]
        refine sv_bipush dX5_isNear_75 (by decide) ?_
        refine sv_icmp_gt (tgt := 84) dX5_isNear_77 (by decide) (by first | omega | exact hin _ _ | decide | (simp [sv_u, sv_row]; omega) | (simp [sv_u, sv_row]; exact hin _ _) | exact hin1 _ _ | (simp [sv_u, sv_row]; exact hin1 _ _)) (by first | omega | exact hin _ _ | decide | (simp [sv_u, sv_row]; omega) | (simp [sv_u, sv_row]; exact hin _ _) | exact hin1 _ _ | (simp [sv_u, sv_row]; exact hin1 _ _)) (fun h_77 => ?_) (fun h_77 => ?_)
        · refine sv_iconst dX5_isNear_84 ?_
          refine sv_zreturn dX5_isNear_85 rfl (by decide) ?_
          first
            | exact ⟨_, rfl, rfl, rfl, rfl, Or.inl ⟨rfl, ⟨by assumption, hR, by assumption, by omega⟩, q6⟩, q7, q4⟩
            | exact ⟨_, rfl, rfl, rfl, rfl, Or.inr ⟨rfl, fun h => by have := h.2.2.2; omega⟩, q7, q4⟩
        · refine sv_iconst dX5_isNear_80 ?_
          refine sv_goto (tgt := 85) dX5_isNear_81 (by decide) ?_
          refine sv_zreturn dX5_isNear_85 rfl (by decide) ?_
          first
            | exact ⟨_, rfl, rfl, rfl, rfl, Or.inl ⟨rfl, ⟨by assumption, hR, by assumption, by omega⟩, q6⟩, q7, q4⟩
            | exact ⟨_, rfl, rfl, rfl, rfl, Or.inr ⟨rfl, fun h => by have := h.2.2.2; omega⟩, q7, q4⟩
      · refine sv_iconst dX5_isNear_50 ?_
        refine sv_zreturn dX5_isNear_51 rfl (by decide) ?_
        first
          | exact ⟨_, rfl, rfl, rfl, rfl, Or.inr ⟨rfl, fun h => absurd (by assumption) h.1⟩, hwv, q2⟩
          | exact ⟨_, rfl, rfl, rfl, rfl, Or.inr ⟨rfl, fun h => absurd h.2.1 (by assumption)⟩, (fun j a1 a2 => by rw [hf3.w]; exact hwv j a1 a2), q2.trans hf3.sq⟩
          | exact ⟨_, rfl, rfl, rfl, rfl, Or.inr ⟨rfl, fun h => by have := h.2.2.1; omega⟩, (fun j a1 a2 => by rw [hf3.w]; exact hwv j a1 a2), q2.trans hf3.sq⟩
set_option maxRecDepth 100000 in
set_option maxHeartbeats 4000000 in
theorem c_X5_raise {X : sv_X} {S : sv_S} {f : sv_F} {r : sv_R} {g : sv_G} {o : Nat} {m : Int → Int} (hsh : sv_M5 S r o) (hm : f (o + 1) = m) (hw : sp_wt m) (hg : sp_wg m) (hu : 0 ≤ f o 2 ∧ f o 2 ≤ 6) : sv_C X 4 MX5_raise 0 0 [sv_r o] S f r g (sv_qi (fun a f' => (m 582 = 3 ∧ a = -3 ∧ f' = f) ∨ (m 582 ≠ 3 ∧ a = m 582 + 1 ∧ sp_chg o f f' ∧ sp_raise m (f' (o + 1)))) S r g) := by
  refine sv_met (by decide) (by simp [lg_sl, sv_cv, va_rf, Value.category]) ?_
  refine sv_fr fun hin => ?_
  refine sv_aload_n (i := 0) dX5_raise_0 rfl rfl ?_
  refine sv_getR (kz := 0) flX5_7 dX5_raise_1 rfl rfl hsh.lt hsh.k hsh.r1 ?_
  refine sv_sipush dX5_raise_4 (by decide) ?_
  refine sv_iald dX5_raise_7 hsh.l1 hsh.s1 (by omega) ?_
  rw [hm]
  have hgf := hg.f
  refine sv_iconst dX5_raise_8 ?_
  refine sv_icmp_ne (tgt := 15) dX5_raise_9 (by decide) (by first | omega | exact hin _ _ | decide | (simp [sv_u, sv_row]; omega) | (simp [sv_u, sv_row]; exact hin _ _) | exact hin1 _ _ | (simp [sv_u, sv_row]; exact hin1 _ _)) (by first | omega | exact hin _ _ | decide | (simp [sv_u, sv_row]; omega) | (simp [sv_u, sv_row]; exact hin _ _) | exact hin1 _ _ | (simp [sv_u, sv_row]; exact hin1 _ _)) (fun h_9 => ?_) (fun h_9 => ?_)
  · refine sv_aload_n (i := 0) dX5_raise_15 rfl rfl ?_
    refine sv_vv0 (As := []) clX5_137 dX5_raise_16 ⟨_, rfl, rfl⟩ (by decide) rfl (Nat.le_of_ble_eq_true rfl) (by decide) (by decide) hsh.lt hsh.k (c_X5_keeps hsh hu) (fun f1 hf1 => ?_)
    have k1 : ∀ x, x ≠ o → x ≠ o + 2 → f1 x = f x := fun x a1 a2 => by rw [hf1, sv_u_ne a1, sv_row_ne a2]
    have k2 : ∀ j, j ≠ 2 → f1 o j = f o j := fun j a1 => by rw [hf1]; simp [sv_u, sv_row, a1]
    have k3 : f1 (o + 2) = sp_kpast (f (o + 1)) (f (o + 2)) (f o 2) := by rw [hf1, sv_u_ne (by omega), sv_row_eq]; rfl
    have k4 : f1 o 2 = sp_ku (f o 2) := by rw [hf1]; simp [sv_u]; rfl
    have hm1 : f1 (o + 1) = m := by rw [k1 (o + 1) (by omega) (by omega)]; exact hm
    clear hf1
    refine sv_aload_n (i := 0) dX5_raise_19 rfl rfl ?_
    refine sv_vv0 (As := []) clX5_143 dX5_raise_20 ⟨_, rfl, rfl⟩ (by decide) rfl (Nat.le_of_ble_eq_true rfl) (by decide) (by decide) hsh.lt hsh.k (c_X5_takesGame hsh) (fun f2 hf2 => ?_)
    have e1 : f2 o 4 = m 582 := by rw [hf2]; simp [sv_u, hm1]
    have e2 : ∀ j, 0 ≤ j → j < 12 → f2 (o + 3) j = sp_gv m j := fun j a1 a2 => by
      rw [hf2]
      simp [sv_row, sv_u, a1, a2, hm1, sp_gv]
    have hok2 : sp_ok (f2 (o + 3)) (6 + 2 * f2 o 4) := fun j a1 a2 => by rw [e1] at a2; rw [e2 j a1 (by omega)]; exact hg.v j a1 a2
    have e3 : ∀ x, x ≠ o → x ≠ o + 3 → f2 x = f1 x := fun x a1 a2 => by rw [hf2, sv_u_ne a1, sv_row_ne a2]
    have e4 : ∀ j, j ≠ 4 → f2 o j = f1 o j := fun j a1 => by rw [hf2]; simp [sv_u, sv_row, a1]
    clear hf2
    refine sv_aload_n (i := 0) dX5_raise_23 rfl rfl ?_
    refine sv_vv0 (As := []) clX5_49 dX5_raise_24 ⟨_, rfl, rfl⟩ (by decide) rfl (Nat.le_of_ble_eq_true rfl) (by decide) (by decide) hsh.lt hsh.k (c_X5_raises hsh (by omega) hok2) (fun f3 hf3 => ?_)
    have g1 : f3 o 4 = m 582 + 1 := by rw [hf3]; simp [sv_u]; exact e1
    have g2 : ∀ j, 0 ≤ j → j < 6 + 2 * (m 582 + 1) → f3 (o + 3) j = sp_rz (sp_gv m) (m 582) (m 582 + 1) j := fun j a1 a2 => by
      rw [hf3, sv_u_ne (by omega), sv_row_eq]
      have h12 : m 582 = 1 ∨ m 582 = 2 := by omega
      have z := sp_rz_congr (v := f2 (o + 3)) (w := sp_gv m) (a := m 582) (b := m 582 + 1) (by omega) (by omega) (by omega) (fun j b1 b2 => e2 j b1 (by omega)) j a1 a2
      rw [← z]
      rcases h12 with h | h
      · rw [e1, h]; rfl
      · rw [e1, h]; rfl
    have g3 : ∀ x, x ≠ o → x ≠ o + 3 → f3 x = f2 x := fun x a1 a2 => by rw [hf3, sv_u_ne a1, sv_row_ne a2]
    have g4 : ∀ j, j ≠ 4 → f3 o j = f2 o j := fun j a1 => by rw [hf3]; simp [sv_u, sv_row, a1]
    have hm3 : f3 (o + 1) = m := by rw [g3 (o + 1) (by omega) (by omega), e3 (o + 1) (by omega) (by omega)]; exact hm1
    clear hf3
    refine sv_aload_n (i := 0) dX5_raise_27 rfl rfl ?_
    refine sv_vv0 (As := []) clX5_146 dX5_raise_28 ⟨_, rfl, rfl⟩ (by decide) rfl (Nat.le_of_ble_eq_true rfl) (by decide) (by decide) hsh.lt hsh.k (c_X5_givesGame hsh (by omega)) (fun f4 hf4 => ?_)
    have i1 : ∀ x, x ≠ o + 1 → f4 x = f3 x := fun x a1 => by rw [hf4, sv_row_ne a1]
    have i2 : ∀ j, f4 (o + 1) j = if j = 582 then f3 o 4 else if 583 ≤ j ∧ j < 595 then (if j - 583 < 6 + 2 * f3 o 4 then f3 (o + 3) (j - 583) else 0) else f3 (o + 1) j := fun j => by rw [hf4, sv_row_eq]
    refine sv_aload_n (i := 0) dX5_raise_31 rfl rfl ?_
    refine sv_getI (kz := 4) flX5_46 dX5_raise_32 rfl rfl hsh.lt hsh.k ?_
    refine sv_ireturn dX5_raise_35 rfl ?_
    refine ⟨_, rfl, rfl, rfl, rfl, Or.inr ⟨by assumption, ?_, ⟨fun x hx => ?_, ?_, ?_, ?_, ?_⟩, ?_⟩⟩
    · rw [i1 o (by omega), g1]
    · rw [i1 x (by omega), g3 x (by omega) (by omega), e3 x (by omega) (by omega), k1 x (by omega) (by omega)]
    · rw [i1 (o + 7) (by omega), g3 (o + 7) (by omega) (by omega), e3 (o + 7) (by omega) (by omega), k1 (o + 7) (by omega) (by omega)]
    · rw [i1 o (by omega), g4 10 (by omega), e4 10 (by omega), k2 10 (by omega)]
    · rw [i1 (o + 2) (by omega), g3 (o + 2) (by omega) (by omega), e3 (o + 2) (by omega) (by omega), k3]
    · rw [i1 o (by omega), g4 2 (by omega), e4 2 (by omega), k4]
    · refine ⟨fun j a1 a2 => ?_, ?_, ?_, ?_, ?_, fun j a1 a2 => ?_⟩
      · rw [i2, if_neg (by omega), if_neg (by omega), hm3]
      · rw [i2, if_pos rfl, g1]
      · rw [i2, if_neg (by omega), if_neg (by omega), hm3]
      · rw [i2, if_neg (by omega), if_neg (by omega), hm3]
      · rw [i2, if_neg (by omega), if_neg (by omega), hm3]
      · rw [i2, if_neg (by omega), if_pos (by omega), if_pos (by rw [g1]; omega), show 583 + j - 583 = j by omega]
        exact g2 j a1 a2
  · refine sv_bipush dX5_raise_12 (by decide) ?_
    refine sv_ireturn dX5_raise_14 rfl ?_
    exact ⟨_, rfl, rfl, rfl, rfl, Or.inl ⟨by assumption, rfl, rfl⟩⟩
