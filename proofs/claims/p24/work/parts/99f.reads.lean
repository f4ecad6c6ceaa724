set_option maxRecDepth 100000 in
set_option maxHeartbeats 4000000 in
theorem c_L_reads {X : sv_X} {S : sv_S} {f : sv_F} {r : sv_R} {g : sv_G} {a c : Nat} {b : Nat} {m : Int → Int} (hb : b < S.1 ∧ S.2 b = (6, 64)) (hw : sp_wt m) (hq : lw_q (f b) m) (ha : a < S.1 ∧ S.2 a = (6, 16)) (hc : c < S.1 ∧ S.2 c = (6, 8)) (hab : a ≠ b) (hcb : c ≠ b) (hac : a ≠ c) {k : Int} (hk : 0 ≤ k ∧ k < m 580) : sv_C X 2 ML_reads 0 0 [sv_r b, sv_i k, sv_r a, sv_r c] S f r g (sv_qi (fun x f' => x = sp_R m k ∧ (∀ z, z ≠ a → z ≠ c → f' z = f z) ∧ (sp_R m k = -1 → f' a 12 = m (29 * k + 1) ∧ ∀ j, 0 ≤ j → j < 6 + 2 * m (29 * k + 1) → f' a j = sp_V m k j)) S r g) := by
  refine sv_met (by decide) (by simp [lg_sl, sv_cv, va_rf, Value.category]) ?_
  refine sv_fr fun hin => ?_
  have hm7 := hq.1.2
  have hch := hq.ch hw hk.1 hk.2
  obtain ⟨L, hL, hLe, hLn⟩ := sp_lk_at hw hk.1
  have hL1 : 1 ≤ L := by
    by_cases e : L = 0
    · subst e
      have : k = -1 := hLe
      omega
    · omega
  have hL8 : L ≤ 8 := by
    have h1 := hLn (L - 1) (by omega)
    rcases hch (L - 1) with e | ⟨e1, e2⟩
    · exact absurd e h1
    · omega
  have lp : ∀ (k1 : Nat) (l : Int) (f1 : sv_F), l + 1 < (k1 : Int) → (-1 ≤ l ∧ l < sp_lk m k) → (∀ z, z ≠ a → z ≠ c → f1 z = f z) → (∀ j : Int, l < j → j < sp_lk m k → f1 c j = sp_R m (sp_ch m k j.toNat)) → (l + 1 < sp_lk m k → sp_R m (sp_ch m k (l + 1).toNat) = -1 → f1 a 12 = m (29 * sp_ch m k (l + 1).toNat + 1) ∧ ∀ j, 0 ≤ j → j < 6 + 2 * m (29 * sp_ch m k (l + 1).toNat + 1) → f1 a j = sp_V m (sp_ch m k (l + 1).toNat) j) → sv_T X (sv_rm 2 0 0) ML_reads (sv_Zm X 0 0 (sv_qi (fun x f' => x = sp_R m k ∧ (∀ z, z ≠ a → z ≠ c → f' z = f z) ∧ (sp_R m k = -1 → f' a 12 = m (29 * k + 1) ∧ ∀ j, 0 ≤ j → j < 6 + 2 * m (29 * k + 1) → f' a j = sp_V m k j)) S r g)) 0 0 13 [some (sv_r b), some (sv_i k), some (sv_r a), some (sv_r c), some (sv_i (sp_lk m k)), some (sv_i l), none, none, none] [] S (f1) r g := by
    intro k1
    induction k1 with
    | zero =>
      intro l f1 hk1 g0 g1 g2 g3
      exact absurd hk1 (by omega)
    | succ k1 ih =>
      intro l f1 hk1 g0 g1 g2 g3
      have l120 : ∀ (y : Int) (f2 : sv_F), 0 ≤ l → sp_ch m k l.toNat = y → (0 ≤ y ∧ y < m 580) → (∀ z, z ≠ a → z ≠ c → f2 z = f z) → (∀ j : Int, l < j → j < sp_lk m k → f2 c j = sp_R m (sp_ch m k j.toNat)) → f2 a 12 = m (29 * y + 1) → (m (29 * y + 3) = -1 ∨ (m (29 * y + 3) ≠ -1 ∧ sp_R m (m (29 * y + 3)) = -1 ∧ ∀ j, 0 ≤ j → j < 6 + 2 * m (29 * y + 1) → f2 a j = sp_rz (sp_V m (m (29 * y + 3))) (m (29 * m (29 * y + 3) + 1)) (m (29 * y + 1)) j)) → sv_T X (sv_rm 2 0 0) ML_reads (sv_Zm X 0 0 (sv_qi (fun x f' => x = sp_R m k ∧ (∀ z, z ≠ a → z ≠ c → f' z = f z) ∧ (sp_R m k = -1 → f' a 12 = m (29 * k + 1) ∧ ∀ j, 0 ≤ j → j < 6 + 2 * m (29 * k + 1) → f' a j = sp_V m k j)) S r g)) 0 0 120 [some (sv_r b), some (sv_i k), some (sv_r a), some (sv_r c), some (sv_i (sp_lk m k)), some (sv_i l), some (sv_i y), none, none] [] S (f2) r g := by
        intro y f2 l0 hy y0 o1 o2 o3 o4
        have hfb : f2 b = f b := o1 b (Ne.symm hab) (Ne.symm hcb)
        have hr := hq.row y0.1 y0.2
        have hfm := hw.frm y0.1 y0.2
        have hmy := hw.many y0.1 y0.2
        obtain ⟨⟨r0, r1, r2, r4⟩, w0, wc, wp, wr⟩ := hr
        have lp3 : ∀ (k3 : Nat) (p : Int), 12 - p < (k3 : Int) → (0 ≤ p) → (p ≤ 12) → sv_T X (sv_rm 2 0 0) ML_reads (sv_Zm X 0 0 (sv_qi (fun x f' => x = sp_R m k ∧ (∀ z, z ≠ a → z ≠ c → f' z = f z) ∧ (sp_R m k = -1 → f' a 12 = m (29 * k + 1) ∧ ∀ j, 0 ≤ j → j < 6 + 2 * m (29 * k + 1) → f' a j = sp_V m k j)) S r g)) 0 0 126 [some (sv_r b), some (sv_i k), some (sv_r a), some (sv_r c), some (sv_i (sp_lk m k)), some (sv_i l), some (sv_i y), some (sv_i (lw_c (f b (8 * y + 3)) p.toNat)), some (sv_i p)] [] S (sv_row f2 a (lw_lay (f2 a) (f b) y (f b (8 * y + 3)) p)) r g := by
          intro k3
          induction k3 with
          | zero =>
            intro p hk3 p0 p1
            exact absurd hk3 (by omega)
          | succ k3 ih3 =>
            intro p hk3 p0 p1
            refine sv_iload dL_reads_126 rfl ?_
            have hci := lw_c_in (f b (8 * y + 3)) p.toNat
            have hrow : sv_row f2 a (lw_lay (f2 a) (f b) y (f b (8 * y + 3)) p) b = f2 b := sv_row_ne (Ne.symm hab)
            refine sv_bipush dL_reads_128 (by decide) ?_
            refine sv_icmp_ge (tgt := 172) dL_reads_130 (by decide) (by unfold sv_in; omega) (by decide) (fun h_130 => ?_) (fun h_130 => ?_)
            · obtain rfl : p = 12 := by omega
              have hv12 : lw_lay (f2 a) (f b) y (f b (8 * y + 3)) 12 12 = m (29 * y + 1) := by rw [lw_lay_o (Or.inl (by decide))]; exact o3
              have hval : ∀ j, 0 ≤ j → j < 6 + 2 * m (29 * y + 1) → lw_lay (f2 a) (f b) y (f b (8 * y + 3)) 12 j = sp_V m y j := by
                rcases o4 with e | ⟨e1, e2, e3⟩
                · exact lw_lay_W hq hw y0.1 y0.2 e (f2 a)
                · exact lw_lay_D hq hw y0.1 y0.2 e1 e2 e3
              obtain ⟨hR, hVok⟩ := lw_R hq hw y0.1 y0.2 (by rcases o4 with e | ⟨e1, e2, e3⟩; exact Or.inl e; exact Or.inr e2)
              have hvok : sp_ok (lw_lay (f2 a) (f b) y (f b (8 * y + 3)) 12) (6 + 2 * m (29 * y + 1)) := fun j a1 a2 => by rw [hval j a1 a2]; exact hVok j a1 a2
              have hsum : sp_sm (lw_lay (f2 a) (f b) y (f b (8 * y + 3)) 12) (6 + 2 * m (29 * y + 1)).toNat = sp_sm (sp_V m y) (6 + 2 * m (29 * y + 1)).toNat := sp_sm_congr hval
              have hsin := sp_sm_in (sp_V m y) (6 + 2 * m (29 * y + 1)).toNat
              have hmin : sv_in (m (29 * y + 2)) := by rw [← r1]; exact hin _ _
              refine sv_aload_n (i := 3) dL_reads_172 rfl rfl ?_
              refine sv_iload dL_reads_173 rfl ?_
              refine sv_aload_n (i := 2) dL_reads_175 rfl rfl ?_
              refine sv_sp0 (As := [_]) clL_30 dL_reads_176 rfl (Nat.le_of_ble_eq_true rfl) (by decide) (by decide) (c_L_sum (a := a) ha (by decide) (by rw [sv_row_eq, hv12]; omega) (by rw [sv_row_eq, hv12]; exact hvok)) ?_
              refine sv_aload_n (i := 0) dL_reads_179 rfl rfl ?_
              refine sv_bipush dL_reads_180 (by decide) ?_
              refine sv_iload dL_reads_182 rfl ?_
              refine sv_imul dL_reads_184 ?_
              refine sv_iconst dL_reads_185 ?_
              refine sv_iadd dL_reads_186 ?_
              refine sv_iald dL_reads_187 hb.1 hb.2 (by omega) ?_
              rw [sv_row_ne (Ne.symm hab), hfb, r1, sv_row_eq, hv12, hsum]
              refine sv_icmp_ne (tgt := 195) dL_reads_188 (by decide) (by unfold sv_in; omega) hmin (fun h_188 => ?_) (fun h_188 => ?_)
              · refine sv_iconst dL_reads_195 ?_
                refine sv_iast dL_reads_196 hc.1 hc.2 (by omega) (by decide) ?_
                refine sv_iinc dL_reads_197 rfl (by decide) rfl ?_
                refine sv_goto (tgt := 13) dL_reads_200 (by decide) ?_
                first
                | (refine sv_wk (ih (l + -1) (sv_u (sv_row f2 a (lw_lay (f2 a) (f b) y (f b (8 * y + 3)) 12)) c l (-1)) (by omega) (by omega) (fun z z1 z2 => ?_) (fun j j0 j1 => ?_) (fun _ _ => ?_)) (by simp [sv_sub]) rfl
                   · rw [sv_u_ne z2, sv_row_ne z1]; exact o1 z z1 z2
                   · by_cases e : j = l
                     · subst e
                       have e1 : sv_u (sv_row f2 a (lw_lay (f2 a) (f b) y (f b (8 * y + 3)) 12)) c j (-1) c j = (-1) := by simp [sv_u]
                       rw [e1, hy, hR, if_pos (by assumption)]
                     · have e1 : sv_u (sv_row f2 a (lw_lay (f2 a) (f b) y (f b (8 * y + 3)) 12)) c l (-1) c j = f2 c j := by simp [sv_u, sv_row, e, Ne.symm hac]
                       rw [e1]; exact o2 j (by omega) j1
                   · rw [show l + -1 + 1 = l by omega, hy, sv_u_ne hac, sv_row_eq]
                     exact ⟨hv12, hval⟩)
                | (refine sv_wk (ih (l + -1) (sv_u (sv_row f2 a (lw_lay (f2 a) (f b) y (f b (8 * y + 3)) 12)) c l 1) (by omega) (by omega) (fun z z1 z2 => ?_) (fun j j0 j1 => ?_) (fun _ _ => ?_)) (by simp [sv_sub]) rfl
                   · rw [sv_u_ne z2, sv_row_ne z1]; exact o1 z z1 z2
                   · by_cases e : j = l
                     · subst e
                       have e1 : sv_u (sv_row f2 a (lw_lay (f2 a) (f b) y (f b (8 * y + 3)) 12)) c j 1 c j = 1 := by simp [sv_u]
                       rw [e1, hy, hR, if_neg (by assumption)]
                     · have e1 : sv_u (sv_row f2 a (lw_lay (f2 a) (f b) y (f b (8 * y + 3)) 12)) c l 1 c j = f2 c j := by simp [sv_u, sv_row, e, Ne.symm hac]
                       rw [e1]; exact o2 j (by omega) j1
                   · rw [show l + -1 + 1 = l by omega, hy, sv_u_ne hac, sv_row_eq]
                     exact ⟨hv12, hval⟩)
              · refine sv_iconst dL_reads_191 ?_
                refine sv_goto (tgt := 196) dL_reads_192 (by decide) ?_
                refine sv_iast dL_reads_196 hc.1 hc.2 (by omega) (by decide) ?_
                refine sv_iinc dL_reads_197 rfl (by decide) rfl ?_
                refine sv_goto (tgt := 13) dL_reads_200 (by decide) ?_
                first
                | (refine sv_wk (ih (l + -1) (sv_u (sv_row f2 a (lw_lay (f2 a) (f b) y (f b (8 * y + 3)) 12)) c l (-1)) (by omega) (by omega) (fun z z1 z2 => ?_) (fun j j0 j1 => ?_) (fun _ _ => ?_)) (by simp [sv_sub]) rfl
                   · rw [sv_u_ne z2, sv_row_ne z1]; exact o1 z z1 z2
                   · by_cases e : j = l
                     · subst e
                       have e1 : sv_u (sv_row f2 a (lw_lay (f2 a) (f b) y (f b (8 * y + 3)) 12)) c j (-1) c j = (-1) := by simp [sv_u]
                       rw [e1, hy, hR, if_pos (by assumption)]
                     · have e1 : sv_u (sv_row f2 a (lw_lay (f2 a) (f b) y (f b (8 * y + 3)) 12)) c l (-1) c j = f2 c j := by simp [sv_u, sv_row, e, Ne.symm hac]
                       rw [e1]; exact o2 j (by omega) j1
                   · rw [show l + -1 + 1 = l by omega, hy, sv_u_ne hac, sv_row_eq]
                     exact ⟨hv12, hval⟩)
                | (refine sv_wk (ih (l + -1) (sv_u (sv_row f2 a (lw_lay (f2 a) (f b) y (f b (8 * y + 3)) 12)) c l 1) (by omega) (by omega) (fun z z1 z2 => ?_) (fun j j0 j1 => ?_) (fun _ _ => ?_)) (by simp [sv_sub]) rfl
                   · rw [sv_u_ne z2, sv_row_ne z1]; exact o1 z z1 z2
                   · by_cases e : j = l
                     · subst e
                       have e1 : sv_u (sv_row f2 a (lw_lay (f2 a) (f b) y (f b (8 * y + 3)) 12)) c j 1 c j = 1 := by simp [sv_u]
                       rw [e1, hy, hR, if_neg (by assumption)]
                     · have e1 : sv_u (sv_row f2 a (lw_lay (f2 a) (f b) y (f b (8 * y + 3)) 12)) c l 1 c j = f2 c j := by simp [sv_u, sv_row, e, Ne.symm hac]
                       rw [e1]; exact o2 j (by omega) j1
                   · rw [show l + -1 + 1 = l by omega, hy, sv_u_ne hac, sv_row_eq]
                     exact ⟨hv12, hval⟩)
            · refine sv_aload_n (i := 0) dL_reads_133 rfl rfl ?_
              refine sv_bipush dL_reads_134 (by decide) ?_
              refine sv_iload dL_reads_136 rfl ?_
              refine sv_imul dL_reads_138 ?_
              refine sv_iconst dL_reads_139 ?_
              refine sv_iadd dL_reads_140 ?_
              refine sv_iald dL_reads_141 hb.1 hb.2 (by omega) ?_
              rw [hrow, hfb]
              refine sv_iload dL_reads_142 rfl ?_
              refine sv_ishr dL_reads_144 (bz_bshr w0.1 (by omega) p0 (by omega)) ?_
              refine sv_iconst dL_reads_145 ?_
              refine sv_iand dL_reads_146 ((bz_and1 (Int.ediv_nonneg w0.1 (by have := lw_2_pos p; omega)) (by have := Int.ediv_le_self (lw_2 p) w0.1; omega)).trans (congrArg Int32.ofInt (lw_bit w0.1))) ?_
              refine sv_iconst dL_reads_147 ?_
              refine sv_icmp_ne (tgt := 166) dL_reads_148 (by decide) (by rcases lw_b01 (f b (8 * y + 3)) p with e | e <;> rw [e] <;> decide) (by decide) (fun h_148 => ?_) (fun h_148 => ?_)
              · refine sv_iinc dL_reads_166 rfl (by decide) rfl ?_
                refine sv_goto (tgt := 126) dL_reads_169 (by decide) ?_
                first
                | (refine sv_cast (ih3 (p + 1) (by omega) (by omega) (by omega)) rfl rfl rfl (by rw [lw_c_s p0, h_148]; rfl) rfl ?_
                   rw [sv_u_row, sv_row_eq, sv_row_row, lw_lay_1 p0 h_148]; done)
                | (refine sv_cast (ih3 (p + 1) (by omega) (by omega) (by omega)) rfl rfl rfl (by rw [lw_c_s p0, show lw_b (f b (8 * y + 3)) p = 0 by rcases lw_b01 (f b (8 * y + 3)) p with e | e; exact e; exact absurd e h_148, Int.add_zero]; rfl) rfl ?_
                   rw [lw_lay_2 h_148])
              · have hlt := lw_c_lt (n := 12) p0 (by omega) h_148
                have hwpp := wp p p0 (by omega) h_148
                refine sv_aload_n (i := 2) dL_reads_151 rfl rfl ?_
                refine sv_iload dL_reads_152 rfl ?_
                refine sv_aload_n (i := 0) dL_reads_154 rfl rfl ?_
                refine sv_iload dL_reads_155 rfl ?_
                refine sv_iload dL_reads_157 rfl ?_
                refine sv_sp0 (As := [_, _, _]) clL_27 dL_reads_159 rfl (Nat.le_of_ble_eq_true rfl) (by decide) (by decide) (c_L_packed (b := b) hb (by omega) (by omega) (by rw [hrow, hfb]; have hw5 := wr (5 + lw_c (f b (8 * y + 3)) p.toNat / 4) (by omega) (by omega); rw [show 8 * y + 5 + lw_c (f b (8 * y + 3)) p.toNat / 4 = 8 * y + (5 + lw_c (f b (8 * y + 3)) p.toNat / 4) by omega]; exact hw5)) ?_
                rw [hrow, hfb]
                refine sv_iast dL_reads_162 ha.1 ha.2 (by omega) (by rw [hwpp.2]; have := hw.ent y0.1 y0.2 hci.1 (i := lw_c (f b (8 * y + 3)) p.toNat) (by omega); unfold sv_in; omega) ?_
                refine sv_iinc dL_reads_163 rfl (by decide) rfl ?_
                refine sv_iinc dL_reads_166 rfl (by decide) rfl ?_
                refine sv_goto (tgt := 126) dL_reads_169 (by decide) ?_
                first
                | (refine sv_cast (ih3 (p + 1) (by omega) (by omega) (by omega)) rfl rfl rfl (by rw [lw_c_s p0, h_148]; rfl) rfl ?_
                   rw [sv_u_row, sv_row_eq, sv_row_row, lw_lay_1 p0 h_148]; done)
                | (refine sv_cast (ih3 (p + 1) (by omega) (by omega) (by omega)) rfl rfl rfl (by rw [lw_c_s p0, show lw_b (f b (8 * y + 3)) p = 0 by rcases lw_b01 (f b (8 * y + 3)) p with e | e; exact e; exact absurd e h_148, Int.add_zero]; rfl) rfl ?_
                   rw [lw_lay_2 h_148])
        refine sv_iconst dL_reads_120 ?_
        refine sv_istore dL_reads_121 (by decide) rfl ?_
        refine sv_iconst dL_reads_123 ?_
        refine sv_istore dL_reads_124 (by decide) rfl ?_
        refine sv_cast (lp3 13 0 (by omega) (by omega) (by omega)) rfl rfl rfl rfl rfl ?_
        rw [lw_lay_0]; exact sv_row_id
      have l99 : ∀ (y : Int) (f2 : sv_F), 0 ≤ l → sp_ch m k l.toNat = y → (0 ≤ y ∧ y < m 580) → (∀ z, z ≠ a → z ≠ c → f2 z = f z) → (∀ j : Int, l < j → j < sp_lk m k → f2 c j = sp_R m (sp_ch m k j.toNat)) → ((m (29 * y + 3) = -1 ∧ f2 a 12 = m (29 * y + 1)) ∨ (m (29 * y + 3) ≠ -1 ∧ sp_R m (m (29 * y + 3)) = -1 ∧ (1 ≤ f2 a 12 ∧ f2 a 12 ≤ m (29 * y + 1)) ∧ sp_ok (f2 a) (6 + 2 * f2 a 12) ∧ ∀ j, 0 ≤ j → j < 6 + 2 * m (29 * y + 1) → lw_to (f2 a) (m (29 * y + 1)) j = sp_rz (sp_V m (m (29 * y + 3))) (m (29 * m (29 * y + 3) + 1)) (m (29 * y + 1)) j)) → sv_T X (sv_rm 2 0 0) ML_reads (sv_Zm X 0 0 (sv_qi (fun x f' => x = sp_R m k ∧ (∀ z, z ≠ a → z ≠ c → f' z = f z) ∧ (sp_R m k = -1 → f' a 12 = m (29 * k + 1) ∧ ∀ j, 0 ≤ j → j < 6 + 2 * m (29 * k + 1) → f' a j = sp_V m k j)) S r g)) 0 0 99 [some (sv_r b), some (sv_i k), some (sv_r a), some (sv_r c), some (sv_i (sp_lk m k)), some (sv_i l), some (sv_i y), none, none] [] S (f2) r g := by
        intro y f2 l0 hy y0 o1 o2 o4
        have lp9 : ∀ (k9 : Nat) (f2 : sv_F), m (29 * y + 1) - f2 a 12 < (k9 : Int) → (∀ z, z ≠ a → z ≠ c → f2 z = f z) → (∀ j : Int, l < j → j < sp_lk m k → f2 c j = sp_R m (sp_ch m k j.toNat)) → (((m (29 * y + 3) = -1 ∧ f2 a 12 = m (29 * y + 1)) ∨ (m (29 * y + 3) ≠ -1 ∧ sp_R m (m (29 * y + 3)) = -1 ∧ (1 ≤ f2 a 12 ∧ f2 a 12 ≤ m (29 * y + 1)) ∧ sp_ok (f2 a) (6 + 2 * f2 a 12) ∧ ∀ j, 0 ≤ j → j < 6 + 2 * m (29 * y + 1) → lw_to (f2 a) (m (29 * y + 1)) j = sp_rz (sp_V m (m (29 * y + 3))) (m (29 * m (29 * y + 3) + 1)) (m (29 * y + 1)) j))) → sv_T X (sv_rm 2 0 0) ML_reads (sv_Zm X 0 0 (sv_qi (fun x f' => x = sp_R m k ∧ (∀ z, z ≠ a → z ≠ c → f' z = f z) ∧ (sp_R m k = -1 → f' a 12 = m (29 * k + 1) ∧ ∀ j, 0 ≤ j → j < 6 + 2 * m (29 * k + 1) → f' a j = sp_V m k j)) S r g)) 0 0 99 [some (sv_r b), some (sv_i k), some (sv_r a), some (sv_r c), some (sv_i (sp_lk m k)), some (sv_i l), some (sv_i y), none, none] [] S (f2) r g := by
          intro k9
          induction k9 with
          | zero =>
            intro f2 hk9 o1 o2 o4
            exact absurd hk9 (by rcases o4 with ⟨e1, e2⟩ | ⟨e1, e2, e3, e4, e5⟩ <;> omega)
          | succ k9 ih9 =>
            intro f2 hk9 o1 o2 o4
            have hfb : f2 b = f b := o1 b (Ne.symm hab) (Ne.symm hcb)
            have hr := hq.row y0.1 y0.2
            have hfm := hw.frm y0.1 y0.2
            have hmy := hw.many y0.1 y0.2
            obtain ⟨⟨r0, r1, r2, r4⟩, w0, wc, wp, wr⟩ := hr
            refine sv_fr fun hin2 => ?_
            refine sv_aload_n (i := 2) dL_reads_99 rfl rfl ?_
            refine sv_bipush dL_reads_100 (by decide) ?_
            refine sv_iald dL_reads_102 ha.1 ha.2 (by omega) ?_
            refine sv_aload_n (i := 0) dL_reads_103 rfl rfl ?_
            refine sv_bipush dL_reads_104 (by decide) ?_
            refine sv_iload dL_reads_106 rfl ?_
            refine sv_imul dL_reads_108 ?_
            refine sv_iald dL_reads_109 hb.1 hb.2 (by omega) ?_
            rw [hfb, r0]
            refine sv_icmp_ge (tgt := 120) dL_reads_110 (by decide) (hin2 _ _) (by unfold sv_in; omega) (fun h_110 => ?_) (fun h_110 => ?_)
            · rcases o4 with ⟨e1, e2⟩ | ⟨e1, e2, e3, e4, e5⟩
              · exact l120 y f2 l0 hy y0 o1 o2 e2 (Or.inl e1)
              · have e12 : f2 a 12 = m (29 * y + 1) := by omega
                refine l120 y f2 l0 hy y0 o1 o2 e12 (Or.inr ⟨e1, e2, fun j j0 j1 => ?_⟩)
                have := e5 j j0 j1
                rw [lw_to_id (by omega)] at this
                exact this
            · refine sv_aload_n (i := 2) dL_reads_113 rfl rfl ?_
              have hlt : f2 a 12 < m (29 * y + 1) := by omega
              refine sv_sv0 (As := [_]) clL_23 dL_reads_114 rfl (Nat.le_of_ble_eq_true rfl) (by decide) (by decide) (c_L_raises (a := a) ha (by decide) (by rcases o4 with ⟨e1, e2⟩ | ⟨e1, e2, e3, e4, e5⟩; exact absurd e2 (by omega); omega) (by rcases o4 with ⟨e1, e2⟩ | ⟨e1, e2, e3, e4, e5⟩; exact absurd e2 (by omega); exact e4)) (fun f3 hf3 => ?_)
              refine sv_goto (tgt := 99) dL_reads_117 (by decide) ?_
              subst hf3
              refine ih9 (sv_row f2 a (lw_up (f2 a))) ?_ (fun z z1 z2 => by rw [sv_row_ne z1]; exact o1 z z1 z2) (fun j j0 j1 => by rw [sv_row_ne (Ne.symm hac)]; exact o2 j j0 j1) ?_
              · rw [sv_row_eq]
                have : lw_up (f2 a) 12 = f2 a 12 + 1 := if_pos rfl
                omega
              · rcases o4 with ⟨e1, e2⟩ | ⟨e1, e2, e3, e4, e5⟩
                · exact absurd e2 (by omega)
                · have e12 : lw_up (f2 a) 12 = f2 a 12 + 1 := if_pos rfl
                  rw [sv_row_eq]
                  refine Or.inr ⟨e1, e2, by omega, lw_up_ok (by omega) e4, fun j j0 j1 => ?_⟩
                  rw [lw_to_up e3.1 hlt (by omega)]
                  exact e5 j j0 j1
        exact lp9 (m (29 * y + 1) - f2 a 12 + 1).toNat f2 (by omega) o1 o2 o4
      refine sv_iload dL_reads_13 rfl ?_
      refine sv_if_lt (tgt := 203) dL_reads_15 (by decide) (by unfold sv_in; omega) (fun h_15 => ?_) (fun h_15 => ?_)
      · refine sv_aload_n (i := 3) dL_reads_203 rfl rfl ?_
        refine sv_iconst dL_reads_204 ?_
        refine sv_iald dL_reads_205 hc.1 hc.2 (by omega) ?_
        refine sv_ireturn dL_reads_206 rfl ?_
        have hl : l = -1 := by omega
        subst hl
        have hk0 : sp_ch m k ((-1 : Int) + 1).toNat = k := rfl
        have h20 := g2 0 (by omega) (by omega)
        have hk1 : sp_ch m k (0 : Int).toNat = k := rfl
        rw [hk1] at h20
        rw [hk0] at g3
        exact ⟨_, rfl, rfl, rfl, rfl, h20, g1, fun h => g3 (by omega) h⟩
      · have hfb : f1 b = f b := g1 b (Ne.symm hab) (Ne.symm hcb)
        obtain ⟨y, hy⟩ : ∃ y, sp_ch m k l.toNat = y := ⟨_, rfl⟩
        have y0 : 0 ≤ y ∧ y < m 580 := by
          rcases hch l.toNat with e | ⟨e1, e2⟩
          · exact absurd e (hLn _ (by omega))
          · omega
        have hr := hq.row y0.1 y0.2
        have hfm := hw.frm y0.1 y0.2
        have hbs := hq.bs y0.1 y0.2
        have hcs : sp_ch m k (l + 1).toNat = sp_bs m y := by
          rw [show (l + 1).toNat = l.toNat + 1 by omega, ← hy]; rfl
        obtain ⟨⟨r0, r1, r2, r4⟩, w0, wc, wp, wr⟩ := hr
        refine sv_fr fun hin1 => ?_
        refine sv_aload_n (i := 0) dL_reads_18 rfl rfl ?_
        refine sv_iload_n (i := 1) dL_reads_19 rfl rfl ?_
        refine sv_iload dL_reads_20 rfl ?_
        refine sv_sp0 (As := [_, _, _]) clL_19 dL_reads_22 rfl (Nat.le_of_ble_eq_true rfl) (by decide) (by decide) (c_L_up (b := b) hb hw (by rw [hfb]; exact hq) hk (by omega) (fun j hj => hLn j (by omega))) ?_
        rw [hy]
        refine sv_istore dL_reads_25 (by decide) rfl ?_
        refine sv_aload_n (i := 0) dL_reads_27 rfl rfl ?_
        refine sv_bipush dL_reads_28 (by decide) ?_
        refine sv_iload dL_reads_30 rfl ?_
        refine sv_imul dL_reads_32 ?_
        refine sv_iald dL_reads_33 hb.1 hb.2 (by omega) ?_
        rw [hfb, r0]
        refine sv_if_ne (tgt := 45) dL_reads_34 (by decide) (by unfold sv_in; omega) (fun h_34 => ?_) (fun h_34 => absurd h_34 (by omega))
        refine sv_iload dL_reads_45 rfl ?_
        refine sv_iload dL_reads_47 rfl ?_
        refine sv_iconst dL_reads_49 ?_
        refine sv_isub dL_reads_50 ?_
        refine sv_icmp_ge (tgt := 72) dL_reads_51 (by decide) (by unfold sv_in; omega) (by unfold sv_in; omega) (fun h_51 => ?_) (fun h_51 => ?_)
        · refine sv_aload_n (i := 2) dL_reads_72 rfl rfl ?_
          refine sv_bipush dL_reads_73 (by decide) ?_
          refine sv_iload dL_reads_75 rfl ?_
          refine sv_iload dL_reads_77 rfl ?_
          refine sv_iconst dL_reads_79 ?_
          refine sv_isub dL_reads_80 ?_
          refine sv_icmp_ne (tgt := 94) dL_reads_81 (by decide) (by unfold sv_in; omega) (by unfold sv_in; omega) (fun h_81 => ?_) (fun h_81 => ?_)
          · refine sv_aload_n (i := 2) dL_reads_94 rfl rfl ?_
            refine sv_bipush dL_reads_95 (by decide) ?_
            refine sv_iald dL_reads_97 ha.1 ha.2 (by omega) ?_
            try rw [hfb, r0]
            refine sv_iast dL_reads_98 ha.1 ha.2 (by omega) (by first | (unfold sv_in; omega) | exact hin1 _ _) ?_
            have hv1 : ∀ v : Int, (∀ z, z ≠ a → z ≠ c → sv_u f1 a 12 v z = f z) ∧ (∀ j : Int, l < j → j < sp_lk m k → sv_u f1 a 12 v c j = sp_R m (sp_ch m k j.toNat)) ∧ sv_u f1 a 12 v a 12 = v := fun v => ⟨fun z z1 z2 => by rw [sv_u_ne z1]; exact g1 z z1 z2, fun j j0 j1 => by rw [sv_u_ne (Ne.symm hac)]; exact g2 j j0 j1, by simp [sv_u]⟩
            first
            | (exfalso; omega)
            | (refine l99 y _ (by omega) hy y0 (hv1 _).1 (hv1 _).2.1 (Or.inl ⟨?_, (hv1 _).2.2⟩)
               rw [← hbs, ← hcs, show (l + 1).toNat = L by omega]; exact hLe)
            | (have hb1 : m (29 * y + 3) ≠ -1 := by
                 rw [← hbs, ← hcs]; exact hLn _ (by omega)
               have hb2 : sp_R m (m (29 * y + 3)) = -1 := by rw [← hbs]; assumption
               have hbr := hq.base hw y0.1 y0.2
               obtain ⟨v1, v2⟩ := g3 (by omega) (by rw [hcs, hbs]; exact hb2)
               rw [hcs, hbs] at v1 v2
               have hbf := hw.frm (s := m (29 * y + 3)) (by omega) (by omega)
               have hms := hw.fms y0.1 y0.2 (t := m (29 * y + 3)) (by omega) (by omega) (by rw [hq.num (s := m (29 * y + 3)) (by omega) (by omega)])
               have hself : sv_u f1 a 12 (f1 a 12) = f1 := by funext x z; simp only [sv_u]; grind
               refine l99 y _ (by omega) hy y0 (hv1 _).1 (hv1 _).2.1 (Or.inr ⟨hb1, hb2, ?_, ?_, ?_⟩)
               · rw [hself, v1]; omega
               · rw [hself, v1]
                 have hok := sp_V_ok' hw hb2
                 rw [hq.slot (k := m (29 * y + 3)) (by omega) (by omega)] at hok
                 intro j j0 j1
                 rw [v2 j j0 j1]; exact hok j j0 j1
               · intro j j0 j1
                 rw [hself]
                 unfold lw_to
                 rw [if_neg (by omega), v1]
                 exact sp_rz_congr hbf.1 hms hfm.2 v2 j j0 j1)
          · refine sv_aload_n (i := 0) dL_reads_84 rfl rfl ?_
            refine sv_bipush dL_reads_85 (by decide) ?_
            refine sv_iload dL_reads_87 rfl ?_
            refine sv_imul dL_reads_89 ?_
            refine sv_iald dL_reads_90 hb.1 hb.2 (by omega) ?_
            refine sv_goto (tgt := 98) dL_reads_91 (by decide) ?_
            try rw [hfb, r0]
            refine sv_iast dL_reads_98 ha.1 ha.2 (by omega) (by first | (unfold sv_in; omega) | exact hin1 _ _) ?_
            have hv1 : ∀ v : Int, (∀ z, z ≠ a → z ≠ c → sv_u f1 a 12 v z = f z) ∧ (∀ j : Int, l < j → j < sp_lk m k → sv_u f1 a 12 v c j = sp_R m (sp_ch m k j.toNat)) ∧ sv_u f1 a 12 v a 12 = v := fun v => ⟨fun z z1 z2 => by rw [sv_u_ne z1]; exact g1 z z1 z2, fun j j0 j1 => by rw [sv_u_ne (Ne.symm hac)]; exact g2 j j0 j1, by simp [sv_u]⟩
            first
            | (exfalso; omega)
            | (refine l99 y _ (by omega) hy y0 (hv1 _).1 (hv1 _).2.1 (Or.inl ⟨?_, (hv1 _).2.2⟩)
               rw [← hbs, ← hcs, show (l + 1).toNat = L by omega]; exact hLe)
            | (have hb1 : m (29 * y + 3) ≠ -1 := by
                 rw [← hbs, ← hcs]; exact hLn _ (by omega)
               have hb2 : sp_R m (m (29 * y + 3)) = -1 := by rw [← hbs]; assumption
               have hbr := hq.base hw y0.1 y0.2
               obtain ⟨v1, v2⟩ := g3 (by omega) (by rw [hcs, hbs]; exact hb2)
               rw [hcs, hbs] at v1 v2
               have hbf := hw.frm (s := m (29 * y + 3)) (by omega) (by omega)
               have hms := hw.fms y0.1 y0.2 (t := m (29 * y + 3)) (by omega) (by omega) (by rw [hq.num (s := m (29 * y + 3)) (by omega) (by omega)])
               have hself : sv_u f1 a 12 (f1 a 12) = f1 := by funext x z; simp only [sv_u]; grind
               refine l99 y _ (by omega) hy y0 (hv1 _).1 (hv1 _).2.1 (Or.inr ⟨hb1, hb2, ?_, ?_, ?_⟩)
               · rw [hself, v1]; omega
               · rw [hself, v1]
                 have hok := sp_V_ok' hw hb2
                 rw [hq.slot (k := m (29 * y + 3)) (by omega) (by omega)] at hok
                 intro j j0 j1
                 rw [v2 j j0 j1]; exact hok j j0 j1
               · intro j j0 j1
                 rw [hself]
                 unfold lw_to
                 rw [if_neg (by omega), v1]
                 exact sp_rz_congr hbf.1 hms hfm.2 v2 j j0 j1)
        · refine sv_aload_n (i := 3) dL_reads_54 rfl rfl ?_
          refine sv_iload dL_reads_55 rfl ?_
          refine sv_iconst dL_reads_57 ?_
          refine sv_iadd dL_reads_58 ?_
          refine sv_iald dL_reads_59 hc.1 hc.2 (by omega) ?_
          rw [g2 (l + 1) (by omega) (by omega), hcs]
          refine sv_iconst dL_reads_60 ?_
          refine sv_icmp_eq (tgt := 72) dL_reads_61 (by decide) (by have := hin1 c (l + 1); rw [g2 (l + 1) (by omega) (by omega), hcs] at this; exact this) (by decide) (fun h_61 => ?_) (fun h_61 => ?_)
          · refine sv_aload_n (i := 2) dL_reads_72 rfl rfl ?_
            refine sv_bipush dL_reads_73 (by decide) ?_
            refine sv_iload dL_reads_75 rfl ?_
            refine sv_iload dL_reads_77 rfl ?_
            refine sv_iconst dL_reads_79 ?_
            refine sv_isub dL_reads_80 ?_
            refine sv_icmp_ne (tgt := 94) dL_reads_81 (by decide) (by unfold sv_in; omega) (by unfold sv_in; omega) (fun h_81 => ?_) (fun h_81 => ?_)
            · refine sv_aload_n (i := 2) dL_reads_94 rfl rfl ?_
              refine sv_bipush dL_reads_95 (by decide) ?_
              refine sv_iald dL_reads_97 ha.1 ha.2 (by omega) ?_
              try rw [hfb, r0]
              refine sv_iast dL_reads_98 ha.1 ha.2 (by omega) (by first | (unfold sv_in; omega) | exact hin1 _ _) ?_
              have hv1 : ∀ v : Int, (∀ z, z ≠ a → z ≠ c → sv_u f1 a 12 v z = f z) ∧ (∀ j : Int, l < j → j < sp_lk m k → sv_u f1 a 12 v c j = sp_R m (sp_ch m k j.toNat)) ∧ sv_u f1 a 12 v a 12 = v := fun v => ⟨fun z z1 z2 => by rw [sv_u_ne z1]; exact g1 z z1 z2, fun j j0 j1 => by rw [sv_u_ne (Ne.symm hac)]; exact g2 j j0 j1, by simp [sv_u]⟩
              first
              | (exfalso; omega)
              | (refine l99 y _ (by omega) hy y0 (hv1 _).1 (hv1 _).2.1 (Or.inl ⟨?_, (hv1 _).2.2⟩)
                 rw [← hbs, ← hcs, show (l + 1).toNat = L by omega]; exact hLe)
              | (have hb1 : m (29 * y + 3) ≠ -1 := by
                   rw [← hbs, ← hcs]; exact hLn _ (by omega)
                 have hb2 : sp_R m (m (29 * y + 3)) = -1 := by rw [← hbs]; assumption
                 have hbr := hq.base hw y0.1 y0.2
                 obtain ⟨v1, v2⟩ := g3 (by omega) (by rw [hcs, hbs]; exact hb2)
                 rw [hcs, hbs] at v1 v2
                 have hbf := hw.frm (s := m (29 * y + 3)) (by omega) (by omega)
                 have hms := hw.fms y0.1 y0.2 (t := m (29 * y + 3)) (by omega) (by omega) (by rw [hq.num (s := m (29 * y + 3)) (by omega) (by omega)])
                 have hself : sv_u f1 a 12 (f1 a 12) = f1 := by funext x z; simp only [sv_u]; grind
                 refine l99 y _ (by omega) hy y0 (hv1 _).1 (hv1 _).2.1 (Or.inr ⟨hb1, hb2, ?_, ?_, ?_⟩)
                 · rw [hself, v1]; omega
                 · rw [hself, v1]
                   have hok := sp_V_ok' hw hb2
                   rw [hq.slot (k := m (29 * y + 3)) (by omega) (by omega)] at hok
                   intro j j0 j1
                   rw [v2 j j0 j1]; exact hok j j0 j1
                 · intro j j0 j1
                   rw [hself]
                   unfold lw_to
                   rw [if_neg (by omega), v1]
                   exact sp_rz_congr hbf.1 hms hfm.2 v2 j j0 j1)
            · refine sv_aload_n (i := 0) dL_reads_84 rfl rfl ?_
              refine sv_bipush dL_reads_85 (by decide) ?_
              refine sv_iload dL_reads_87 rfl ?_
              refine sv_imul dL_reads_89 ?_
              refine sv_iald dL_reads_90 hb.1 hb.2 (by omega) ?_
              refine sv_goto (tgt := 98) dL_reads_91 (by decide) ?_
              try rw [hfb, r0]
              refine sv_iast dL_reads_98 ha.1 ha.2 (by omega) (by first | (unfold sv_in; omega) | exact hin1 _ _) ?_
              have hv1 : ∀ v : Int, (∀ z, z ≠ a → z ≠ c → sv_u f1 a 12 v z = f z) ∧ (∀ j : Int, l < j → j < sp_lk m k → sv_u f1 a 12 v c j = sp_R m (sp_ch m k j.toNat)) ∧ sv_u f1 a 12 v a 12 = v := fun v => ⟨fun z z1 z2 => by rw [sv_u_ne z1]; exact g1 z z1 z2, fun j j0 j1 => by rw [sv_u_ne (Ne.symm hac)]; exact g2 j j0 j1, by simp [sv_u]⟩
              first
              | (exfalso; omega)
              | (refine l99 y _ (by omega) hy y0 (hv1 _).1 (hv1 _).2.1 (Or.inl ⟨?_, (hv1 _).2.2⟩)
                 rw [← hbs, ← hcs, show (l + 1).toNat = L by omega]; exact hLe)
              | (have hb1 : m (29 * y + 3) ≠ -1 := by
                   rw [← hbs, ← hcs]; exact hLn _ (by omega)
                 have hb2 : sp_R m (m (29 * y + 3)) = -1 := by rw [← hbs]; assumption
                 have hbr := hq.base hw y0.1 y0.2
                 obtain ⟨v1, v2⟩ := g3 (by omega) (by rw [hcs, hbs]; exact hb2)
                 rw [hcs, hbs] at v1 v2
                 have hbf := hw.frm (s := m (29 * y + 3)) (by omega) (by omega)
                 have hms := hw.fms y0.1 y0.2 (t := m (29 * y + 3)) (by omega) (by omega) (by rw [hq.num (s := m (29 * y + 3)) (by omega) (by omega)])
                 have hself : sv_u f1 a 12 (f1 a 12) = f1 := by funext x z; simp only [sv_u]; grind
                 refine l99 y _ (by omega) hy y0 (hv1 _).1 (hv1 _).2.1 (Or.inr ⟨hb1, hb2, ?_, ?_, ?_⟩)
                 · rw [hself, v1]; omega
                 · rw [hself, v1]
                   have hok := sp_V_ok' hw hb2
                   rw [hq.slot (k := m (29 * y + 3)) (by omega) (by omega)] at hok
                   intro j j0 j1
                   rw [v2 j j0 j1]; exact hok j j0 j1
                 · intro j j0 j1
                   rw [hself]
                   unfold lw_to
                   rw [if_neg (by omega), v1]
                   exact sp_rz_congr hbf.1 hms hfm.2 v2 j j0 j1)
          · refine sv_aload_n (i := 3) dL_reads_64 rfl rfl ?_
            refine sv_iload dL_reads_65 rfl ?_
            refine sv_iconst dL_reads_67 ?_
            refine sv_iast dL_reads_68 hc.1 hc.2 (by omega) (by decide) ?_
            refine sv_goto (tgt := 197) dL_reads_69 (by decide) ?_
            refine sv_iinc dL_reads_197 rfl (by decide) rfl ?_
            refine sv_goto (tgt := 13) dL_reads_200 (by decide) ?_
            have hR2 : sp_R m y = 2 := sp_R_bad hw (by rw [hq.slot y0.1 y0.2]; omega) (by rw [← hcs]; exact hLn _ (by omega)) (by assumption)
            refine sv_wk (ih (l + -1) (sv_u f1 c l 2) (by omega) (by omega) (fun z z1 z2 => ?_) (fun j j0 j1 => ?_) (fun _ hn => ?_)) (by simp [sv_sub]) rfl
            · rw [sv_u_ne z2]; exact g1 z z1 z2
            · by_cases e : j = l
              · subst e
                rw [hy, hR2]; simp [sv_u]
              · have e1 : sv_u f1 c l 2 c j = f1 c j := by simp [sv_u, e]
                rw [e1]; exact g2 j (by omega) j1
            · rw [show l + -1 + 1 = l by omega, hy] at hn; omega
  refine sv_aload_n (i := 0) dL_reads_0 rfl rfl ?_
  refine sv_iload_n (i := 1) dL_reads_1 rfl rfl ?_
  refine sv_sp0 (As := [_, _]) clL_15 dL_reads_2 rfl (Nat.le_of_ble_eq_true rfl) (by decide) (by decide) (c_L_links hb hw hq hk) ?_
  refine sv_istore dL_reads_5 (by decide) rfl ?_
  refine sv_iload dL_reads_7 rfl ?_
  refine sv_iconst dL_reads_9 ?_
  refine sv_isub dL_reads_10 ?_
  refine sv_istore dL_reads_11 (by decide) rfl ?_
  exact sv_cast (lp (sp_lk m k + 1).toNat (sp_lk m k - 1) f (by omega) (by omega) (fun _ _ _ => rfl) (fun j j0 j1 => by omega) (fun h => by omega)) rfl rfl rfl rfl rfl rfl
