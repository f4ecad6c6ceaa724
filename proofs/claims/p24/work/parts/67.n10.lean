/-- a Script at place sc -/
def sv_K3 (S : sv_S) (r : sv_R) (sc tx vs : Nat) : Prop := sc < S.1 ∧ (S.2 sc).1 = 3 ∧ (r sc 0 = some tx ∧ tx < S.1 ∧ S.2 tx = (6, 80)) ∧ (r sc 2 = some vs ∧ vs < S.1 ∧ S.2 vs = (6, 12)) ∧ tx ≠ sc ∧ vs ≠ sc ∧ tx ≠ vs
section SVSCRIPT
variable {S : sv_S} {r : sv_R} {sc tx vs : Nat}
theorem sv_K3.lt (h : sv_K3 S r sc tx vs) : sc < S.1 := h.1
theorem sv_K3.k (h : sv_K3 S r sc tx vs) : (S.2 sc).1 = 3 := h.2.1
theorem sv_K3.r0 (h : sv_K3 S r sc tx vs) : r sc 0 = some tx := h.2.2.1.1
theorem sv_K3.l0 (h : sv_K3 S r sc tx vs) : tx < S.1 := h.2.2.1.2.1
theorem sv_K3.s0 (h : sv_K3 S r sc tx vs) : S.2 tx = (6, 80) := h.2.2.1.2.2
theorem sv_K3.r2 (h : sv_K3 S r sc tx vs) : r sc 2 = some vs := h.2.2.2.1.1
theorem sv_K3.l2 (h : sv_K3 S r sc tx vs) : vs < S.1 := h.2.2.2.1.2.1
theorem sv_K3.s2 (h : sv_K3 S r sc tx vs) : S.2 vs = (6, 12) := h.2.2.2.1.2.2
end SVSCRIPT
set_option maxRecDepth 100000 in
set_option maxHeartbeats 4000000 in
theorem c_X4_tally {X : sv_X} {S : sv_S} {f : sv_F} {r : sv_R} {g : sv_G} {V q d fo rs fi se pa sc : Nat} {kp fd : Int → Nat} {m : Int → Int} (hve : sv_K4 S r V q d fi se pa sc) (hmo : sv_K1 S r q kp) (hmv : sv_V1 f q kp m) (hre : sv_K2 S r d fo rs fd) (hw : sp_wt m) (hv2 : sv_V2 f rs fd m (m 580)) {tx vs : Nat} (hsc : sv_K3 S r sc tx vs) (hg : sp_wg m) (w : Int) (hw12 : 0 ≤ w ∧ w ≤ 12) : sv_C X 4 MX4_tally 0 0 [sv_r V, sv_i w] S f r g (sv_qp (some (sv_i (sp_count m (f V 2) (f sc 1) w))) S f r g) := by
  refine sv_met (by decide) (by simp [lg_sl, sv_cv, va_rf, Value.category]) ?_
  refine sv_fr fun hin => ?_
  have hcc := hw.c
  have hgf := hg.f
  have hvs : ∀ j, 0 ≤ j → j < 6 + 2 * m 582 → f (q + 1) j = sp_gv m j := fun j j0 j1 => hmv.val j0 j1
  have hok : sp_ok (f (q + 1)) (6 + 2 * m 582) := fun j j0 j1 => by rw [hvs j j0 j1]; exact hg.v j j0 j1
  have hsm := sp_sm_congr (n := 6 + 2 * m 582) hvs
  have g0 : w = 0 → sv_T X (sv_rm 4 0 0) MX4_tally (sv_Zm X 0 0 (sv_qp (some (sv_i (sp_count m (f V 2) (f sc 1) w))) S f r g)) 0 0 64 [some (sv_r V), some (sv_i w)] [] S (f) r g := by
    intro e
    refine sv_aload_n (i := 0) dX4_tally_64 rfl rfl ?_
    refine sv_getR (kz := 0) flX4_10 dX4_tally_65 rfl rfl hve.lt hve.k hve.r0 ?_
    refine sv_getI (kz := 0) flX4_54 dX4_tally_68 rfl rfl hmo.lt hmo.k ?_
    rw [hmv.form]
    refine sv_ireturn dX4_tally_71 rfl ?_
    exact ⟨by subst e; simp [sp_count, sp_who, sp_bo], rfl, rfl, rfl, rfl⟩
  have g1 : w = 1 → sv_T X (sv_rm 4 0 0) MX4_tally (sv_Zm X 0 0 (sv_qp (some (sv_i (sp_count m (f V 2) (f sc 1) w))) S f r g)) 0 0 72 [some (sv_r V), some (sv_i w)] [] S (f) r g := by
    intro e
    refine sv_aload_n (i := 0) dX4_tally_72 rfl rfl ?_
    refine sv_getR (kz := 0) flX4_10 dX4_tally_73 rfl rfl hve.lt hve.k hve.r0 ?_
    refine sv_getI (kz := 1) flX4_117 dX4_tally_76 rfl rfl hmo.lt hmo.k ?_
    rw [hmv.orig]
    refine sv_ireturn dX4_tally_79 rfl ?_
    exact ⟨by subst e; simp [sp_count, sp_who, sp_bo], rfl, rfl, rfl, rfl⟩
  have g2 : w = 2 → sv_T X (sv_rm 4 0 0) MX4_tally (sv_Zm X 0 0 (sv_qp (some (sv_i (sp_count m (f V 2) (f sc 1) w))) S f r g)) 0 0 80 [some (sv_r V), some (sv_i w)] [] S (f) r g := by
    intro e
    refine sv_aload_n (i := 0) dX4_tally_80 rfl rfl ?_
    refine sv_getR (kz := 0) flX4_10 dX4_tally_81 rfl rfl hve.lt hve.k hve.r0 ?_
    refine sv_getR (kz := 4) flX4_51 dX4_tally_84 rfl rfl hmo.lt hmo.k hmo.r1 ?_
    refine sv_aload_n (i := 0) dX4_tally_87 rfl rfl ?_
    refine sv_getR (kz := 0) flX4_10 dX4_tally_88 rfl rfl hve.lt hve.k hve.r0 ?_
    refine sv_getI (kz := 0) flX4_54 dX4_tally_91 rfl rfl hmo.lt hmo.k ?_
    rw [hmv.form]
    refine sv_sp0 (As := [_, _]) clX4_99 dX4_tally_94 rfl (Nat.le_of_ble_eq_true rfl) (by decide) (by decide) (c_X4_sumOf ⟨hmo.l1, hmo.s1⟩ hgf hok) ?_
    rw [hsm]
    refine sv_ireturn dX4_tally_97 rfl ?_
    exact ⟨by subst e; simp [sp_count, sp_who, sp_bo], rfl, rfl, rfl, rfl⟩
  have g3 : w = 3 → sv_T X (sv_rm 4 0 0) MX4_tally (sv_Zm X 0 0 (sv_qp (some (sv_i (sp_count m (f V 2) (f sc 1) w))) S f r g)) 0 0 98 [some (sv_r V), some (sv_i w)] [] S (f) r g := by
    intro e
    refine sv_aload_n (i := 0) dX4_tally_98 rfl rfl ?_
    refine sv_getR (kz := 0) flX4_10 dX4_tally_99 rfl rfl hve.lt hve.k hve.r0 ?_
    refine sv_getI (kz := 3) flX4_79 dX4_tally_102 rfl rfl hmo.lt hmo.k ?_
    rw [hmv.size]
    refine sv_ireturn dX4_tally_105 rfl ?_
    exact ⟨by subst e; simp [sp_count, sp_who, sp_bo], rfl, rfl, rfl, rfl⟩
  have g4 : w = 4 → sv_T X (sv_rm 4 0 0) MX4_tally (sv_Zm X 0 0 (sv_qp (some (sv_i (sp_count m (f V 2) (f sc 1) w))) S f r g)) 0 0 106 [some (sv_r V), some (sv_i w)] [] S (f) r g := by
    intro e
    refine sv_aload_n (i := 0) dX4_tally_106 rfl rfl ?_
    refine sv_getR (kz := 0) flX4_10 dX4_tally_107 rfl rfl hve.lt hve.k hve.r0 ?_
    refine sv_vp0 (As := []) clX4_206 dX4_tally_110 ⟨_, rfl, rfl⟩ (by decide) rfl (Nat.le_of_ble_eq_true rfl) (by decide) (by decide) hmo.lt hmo.k (c_X1_wholeOnes hmo hmv hcc) ?_
    refine sv_ireturn dX4_tally_113 rfl ?_
    exact ⟨by subst e; simp [sp_count, sp_who, sp_bo], rfl, rfl, rfl, rfl⟩
  have g5 : w = 5 → sv_T X (sv_rm 4 0 0) MX4_tally (sv_Zm X 0 0 (sv_qp (some (sv_i (sp_count m (f V 2) (f sc 1) w))) S f r g)) 0 0 114 [some (sv_r V), some (sv_i w)] [] S (f) r g := by
    intro e
    refine sv_aload_n (i := 0) dX4_tally_114 rfl rfl ?_
    refine sv_vp0 (As := []) clX4_209 dX4_tally_115 ⟨_, rfl, rfl⟩ (by decide) rfl (Nat.le_of_ble_eq_true rfl) (by decide) (by decide) hve.lt hve.k (c_X4_unreadable hve hmo hmv hre hw hv2) ?_
    refine sv_ireturn dX4_tally_118 rfl ?_
    exact ⟨by subst e; simp [sp_count, sp_who, sp_bo], rfl, rfl, rfl, rfl⟩
  have g6 : w = 6 → sv_T X (sv_rm 4 0 0) MX4_tally (sv_Zm X 0 0 (sv_qp (some (sv_i (sp_count m (f V 2) (f sc 1) w))) S f r g)) 0 0 119 [some (sv_r V), some (sv_i w)] [] S (f) r g := by
    intro e
    refine sv_aload_n (i := 0) dX4_tally_119 rfl rfl ?_
    refine sv_getR (kz := 0) flX4_10 dX4_tally_120 rfl rfl hve.lt hve.k hve.r0 ?_
    refine sv_vp0 (As := []) clX4_151 dX4_tally_123 ⟨_, rfl, rfl⟩ (by decide) rfl (Nat.le_of_ble_eq_true rfl) (by decide) (by decide) hmo.lt hmo.k (c_X1_weight hmo hmv hcc) ?_
    refine sv_ireturn dX4_tally_126 rfl ?_
    exact ⟨by subst e; simp [sp_count, sp_who, sp_bo], rfl, rfl, rfl, rfl⟩
  have g7 : w = 7 → sv_T X (sv_rm 4 0 0) MX4_tally (sv_Zm X 0 0 (sv_qp (some (sv_i (sp_count m (f V 2) (f sc 1) w))) S f r g)) 0 0 127 [some (sv_r V), some (sv_i w)] [] S (f) r g := by
    intro e
    refine sv_aload_n (i := 0) dX4_tally_127 rfl rfl ?_
    refine sv_getR (kz := 0) flX4_10 dX4_tally_128 rfl rfl hve.lt hve.k hve.r0 ?_
    refine sv_getI (kz := 2) flX4_82 dX4_tally_131 rfl rfl hmo.lt hmo.k ?_
    rw [hmv.came]
    refine sv_ireturn dX4_tally_134 rfl ?_
    exact ⟨by subst e; simp [sp_count, sp_who, sp_bo], rfl, rfl, rfl, rfl⟩
  have g8 : w = 8 → sv_T X (sv_rm 4 0 0) MX4_tally (sv_Zm X 0 0 (sv_qp (some (sv_i (sp_count m (f V 2) (f sc 1) w))) S f r g)) 0 0 135 [some (sv_r V), some (sv_i w)] [] S (f) r g := by
    intro e
    refine sv_aload_n (i := 0) dX4_tally_135 rfl rfl ?_
    refine sv_getR (kz := 0) flX4_10 dX4_tally_136 rfl rfl hve.lt hve.k hve.r0 ?_
    refine sv_vp0 (As := []) clX4_212 dX4_tally_139 ⟨_, rfl, rfl⟩ (by decide) rfl (Nat.le_of_ble_eq_true rfl) (by decide) (by decide) hmo.lt hmo.k (c_X1_longestChain hmo hmv hw) ?_
    refine sv_ireturn dX4_tally_142 rfl ?_
    exact ⟨by subst e; simp [sp_count, sp_who, sp_bo], rfl, rfl, rfl, rfl⟩
  have g9 : w = 9 → sv_T X (sv_rm 4 0 0) MX4_tally (sv_Zm X 0 0 (sv_qp (some (sv_i (sp_count m (f V 2) (f sc 1) w))) S f r g)) 0 0 143 [some (sv_r V), some (sv_i w)] [] S (f) r g := by
    intro e
    refine sv_aload_n (i := 0) dX4_tally_143 rfl rfl ?_
    refine sv_getI (kz := 2) flX4_20 dX4_tally_144 rfl rfl hve.lt hve.k ?_
    refine sv_ireturn dX4_tally_147 rfl ?_
    exact ⟨by subst e; simp [sp_count, sp_who, sp_bo], rfl, rfl, rfl, rfl⟩
  have g10 : w = 10 → sv_T X (sv_rm 4 0 0) MX4_tally (sv_Zm X 0 0 (sv_qp (some (sv_i (sp_count m (f V 2) (f sc 1) w))) S f r g)) 0 0 148 [some (sv_r V), some (sv_i w)] [] S (f) r g := by
    intro e
    refine sv_aload_n (i := 0) dX4_tally_148 rfl rfl ?_
    refine sv_getR (kz := 3) flX4_27 dX4_tally_149 rfl rfl hve.lt hve.k hve.r3 ?_
    refine sv_getI (kz := 1) flX4_45 dX4_tally_152 rfl rfl hsc.lt hsc.k ?_
    refine sv_ireturn dX4_tally_155 rfl ?_
    exact ⟨by subst e; simp [sp_count, sp_who, sp_bo], rfl, rfl, rfl, rfl⟩
  have g11 : w = 11 → sv_T X (sv_rm 4 0 0) MX4_tally (sv_Zm X 0 0 (sv_qp (some (sv_i (sp_count m (f V 2) (f sc 1) w))) S f r g)) 0 0 156 [some (sv_r V), some (sv_i w)] [] S (f) r g := by
    intro e
    refine sv_aload_n (i := 0) dX4_tally_156 rfl rfl ?_
    refine sv_getR (kz := 0) flX4_10 dX4_tally_157 rfl rfl hve.lt hve.k hve.r0 ?_
    refine sv_getR (kz := 5) flX4_130 dX4_tally_160 rfl rfl hmo.lt hmo.k hmo.r2 ?_
    refine sv_iconst dX4_tally_163 ?_
    refine sv_iald dX4_tally_164 hmo.l2 hmo.s2 (by omega) ?_
    rw [hmv.lim]
    refine sv_ireturn dX4_tally_165 rfl ?_
    exact ⟨by subst e; simp [sp_count, sp_who, sp_bo], rfl, rfl, rfl, rfl⟩
  have g12 : w = 12 → sv_T X (sv_rm 4 0 0) MX4_tally (sv_Zm X 0 0 (sv_qp (some (sv_i (sp_count m (f V 2) (f sc 1) w))) S f r g)) 0 0 166 [some (sv_r V), some (sv_i w)] [] S (f) r g := by
    intro e
    refine sv_aload_n (i := 0) dX4_tally_166 rfl rfl ?_
    refine sv_getR (kz := 0) flX4_10 dX4_tally_167 rfl rfl hve.lt hve.k hve.r0 ?_
    refine sv_getR (kz := 5) flX4_130 dX4_tally_170 rfl rfl hmo.lt hmo.k hmo.r2 ?_
    refine sv_iconst dX4_tally_173 ?_
    refine sv_iald dX4_tally_174 hmo.l2 hmo.s2 (by omega) ?_
    rw [hmv.ris]
    refine sv_ireturn dX4_tally_175 rfl ?_
    exact ⟨by subst e; simp [sp_count, sp_who, sp_bo], rfl, rfl, rfl, rfl⟩
  refine sv_iload_n (i := 1) dX4_tally_0 rfl rfl ?_
  by_cases e0 : w = 0
  · exact sv_tsw (off := 63) (tgt := 64) dX4_tally_1 (by omega) (by omega) (by omega) (by rw [e0]; rfl) (by decide) (g0 e0)
  by_cases e1 : w = 1
  · exact sv_tsw (off := 71) (tgt := 72) dX4_tally_1 (by omega) (by omega) (by omega) (by rw [e1]; rfl) (by decide) (g1 e1)
  by_cases e2 : w = 2
  · exact sv_tsw (off := 79) (tgt := 80) dX4_tally_1 (by omega) (by omega) (by omega) (by rw [e2]; rfl) (by decide) (g2 e2)
  by_cases e3 : w = 3
  · exact sv_tsw (off := 97) (tgt := 98) dX4_tally_1 (by omega) (by omega) (by omega) (by rw [e3]; rfl) (by decide) (g3 e3)
  by_cases e4 : w = 4
  · exact sv_tsw (off := 105) (tgt := 106) dX4_tally_1 (by omega) (by omega) (by omega) (by rw [e4]; rfl) (by decide) (g4 e4)
  by_cases e5 : w = 5
  · exact sv_tsw (off := 113) (tgt := 114) dX4_tally_1 (by omega) (by omega) (by omega) (by rw [e5]; rfl) (by decide) (g5 e5)
  by_cases e6 : w = 6
  · exact sv_tsw (off := 118) (tgt := 119) dX4_tally_1 (by omega) (by omega) (by omega) (by rw [e6]; rfl) (by decide) (g6 e6)
  by_cases e7 : w = 7
  · exact sv_tsw (off := 126) (tgt := 127) dX4_tally_1 (by omega) (by omega) (by omega) (by rw [e7]; rfl) (by decide) (g7 e7)
  by_cases e8 : w = 8
  · exact sv_tsw (off := 134) (tgt := 135) dX4_tally_1 (by omega) (by omega) (by omega) (by rw [e8]; rfl) (by decide) (g8 e8)
  by_cases e9 : w = 9
  · exact sv_tsw (off := 142) (tgt := 143) dX4_tally_1 (by omega) (by omega) (by omega) (by rw [e9]; rfl) (by decide) (g9 e9)
  by_cases e10 : w = 10
  · exact sv_tsw (off := 147) (tgt := 148) dX4_tally_1 (by omega) (by omega) (by omega) (by rw [e10]; rfl) (by decide) (g10 e10)
  by_cases e11 : w = 11
  · exact sv_tsw (off := 155) (tgt := 156) dX4_tally_1 (by omega) (by omega) (by omega) (by rw [e11]; rfl) (by decide) (g11 e11)
  exact sv_tswd (tgt := 166) dX4_tally_1 (by omega) (Or.inr (by omega)) (by decide) (g12 (by omega))
