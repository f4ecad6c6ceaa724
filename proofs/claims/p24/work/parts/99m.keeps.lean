set_option maxRecDepth 100000 in
set_option maxHeartbeats 4000000 in
theorem c_L_keeps {X : sv_X} {S : sv_S} {f : sv_F} {r : sv_R} {g : sv_G} {m : Int → Int} (hJ : sv_J S r f m) (hS : sv_JS S f) (hg : lw_g (f 478) m) (hq : lw_q (f 479) m)  : sv_C X 6 ML_keeps 2 24 [sv_r 0, sv_r 478, sv_r 479] S f r g (fun rv' S' f' r' g' => ∃ a, rv' = some (sv_i a) ∧ a = 1 ∧ sv_LI S' r' f') := by
  refine sv_met (by decide) (by simp [lg_sl, sv_cv, va_rf, Value.category]) ?_
  obtain ⟨hw, hwg⟩ := hJ.w
  have hgf := hwg.f
  obtain ⟨g0, g12, g13, g14, g15, g16⟩ := id hg
  have hm7 := hq.1
  have hg597 := hwg.r
  have hg596 := hwg.l
  have hlt : 478 < S.1 := by have := hS.1; omega
  have hwc0 := hw.c
  have main : m 580 ≠ 7 → ∀ S2 : sv_S, S2.1 = S.1 + 2 → S2.2 S.1 = (6, 16) → S2.2 (S.1 + 1) = (6, 8) → (∀ x, x < S.1 → S2.2 x = S.2 x) → sv_T X (sv_rm 6 2 24) ML_keeps (sv_Zm X 2 24 (fun rv' S' f' r' g' => ∃ a, rv' = some (sv_i a) ∧ a = 1 ∧ sv_LI S' r' f')) 2 24 25 [some (sv_r 0), some (sv_r 478), some (sv_r 479), some (sv_i (m 580)), some (sv_r S.1), some (sv_r (S.1 + 1)), none, none] [] S2 (f) r g := by
    intro h7 S2 zS hkA hkB hold
    have h480 := hS.1
    have hJ : sv_J S2 r f m := hJ.gr (by omega) hold
    have hG : 478 < S2.1 ∧ S2.2 478 = (6, 20) := ⟨by omega, by rw [hold _ (by omega)]; exact hS.2.1⟩
    have hb : 479 < S2.1 ∧ S2.2 479 = (6, 64) := ⟨by omega, by rw [hold _ (by omega)]; exact hS.2.2.1⟩
    have ha : S.1 < S2.1 ∧ S2.2 S.1 = (6, 16) := ⟨by omega, hkA⟩
    have hc : S.1 + 1 < S2.1 ∧ S2.2 (S.1 + 1) = (6, 8) := ⟨by omega, hkB⟩
    have hJS : ∀ f' : sv_F, (∀ x, S2.1 ≤ x → f' x = f x) → sv_JS S2 f' := fun f' h => ⟨by omega, hG.2, hb.2, fun x hx => by rw [h x hx]; exact hS.2.2.2 x (by omega)⟩
    have hwc := hw.c
    obtain ⟨m', hkp⟩ := lw_keep_ex (m := m) (by omega) hgf
    obtain ⟨e, he, hcn4, hent, hen, hew⟩ := lw_keep_e hkp hgf
    have hor : (m 595 ≠ -1) → 0 ≤ m 595 ∧ m 595 < m 580 := fun e => by
      rcases hwg.o with z | ⟨e1, e2, e3⟩
      · exact absurd z e
      · obtain ⟨s0, s1, s2⟩ := sp_slot_in e2
        rw [hq.num s0 s1] at s2
        omega
    have p119 : ∀ (nr : Int) (f2 : sv_F), (∀ z, z ≠ S.1 → z ≠ S.1 + 1 → f2 z = f z) → ((nr = 1 ∧ sp_near m ∧ ∀ j, 0 ≤ j → j < 6 + 2 * m 582 → f2 S.1 j = (sp_rz (sp_V m (m 595)) (m (29 * sp_slot m (m 595) + 1)) (m 582)) j) ∨ (nr = 0 ∧ ¬ sp_near m)) → sv_T X (sv_rm 6 2 24) ML_keeps (sv_Zm X 2 24 (fun rv' S' f' r' g' => ∃ a, rv' = some (sv_i a) ∧ a = 1 ∧ sv_LI S' r' f')) 2 24 119 [some (sv_r 0), some (sv_r 478), some (sv_r 479), some (sv_i (m 580)), some (sv_r S.1), some (sv_r (S.1 + 1)), some (sv_i nr), none] [] S2 (f2) r g := by
      intro nr f2 o1 hnr
      have hnb : nr = 0 ∨ nr = 1 := by rcases hnr with ⟨n1, -⟩ | ⟨n1, -⟩ <;> omega
      have lp : ∀ (kk : Nat) (i : Int) (f2 : sv_F), 6 + 2 * m 582 - i < (kk : Int) → (0 ≤ i ∧ i ≤ 6 + 2 * m 582) → (∀ z, z ≠ S.1 → z ≠ S.1 + 1 → z ≠ 479 → f2 z = f z) → (((nr = 1 ∧ sp_near m ∧ ∀ j, 0 ≤ j → j < 6 + 2 * m 582 → f2 S.1 j = (sp_rz (sp_V m (m 595)) (m (29 * sp_slot m (m 595) + 1)) (m 582)) j) ∨ (nr = 0 ∧ ¬ sp_near m))) → (lw_kq (f 479) (f2 479) m m' e (m 580) i) → sv_T X (sv_rm 6 2 24) ML_keeps (sv_Zm X 2 24 (fun rv' S' f' r' g' => ∃ a, rv' = some (sv_i a) ∧ a = 1 ∧ sv_LI S' r' f')) 2 24 183 [some (sv_r 0), some (sv_r 478), some (sv_r 479), some (sv_i (m 580)), some (sv_r S.1), some (sv_r (S.1 + 1)), some (sv_i nr), some (sv_i i)] [] S2 (f2) r g := by
        intro kk
        induction kk with
        | zero =>
          intro i f2 hkk i0 o1 hnr hkq
          exact absurd hkk (by omega)
        | succ kk ih =>
          intro i f2 hkk i0 o1 hnr hkq
          refine sv_fr fun hin2 => ?_
          have o478 : f2 478 = f 478 := o1 478 (by omega) (by omega) (by decide)
          obtain ⟨kqa, ⟨kq0, kq1, kq2, kq3, kq4⟩, kqw⟩ := id hkq
          have hcn := sp_cnt_01 he i.toNat
          refine sv_iload dL_keeps_183 rfl ?_
          refine sv_aload_n (i := 1) dL_keeps_185 rfl rfl ?_
          refine sv_bipush dL_keeps_186 (by decide) ?_
          refine sv_iald dL_keeps_188 hG.1 hG.2 (by decide) ?_
          refine sv_sp0 (As := [_]) clL_11 dL_keeps_189 rfl (Nat.le_of_ble_eq_true rfl) (by decide) (by decide) (c_L_many (F := f2 478 12) (by rw [o478]; omega)) ?_
          rw [o478, g12]
          refine sv_icmp_ge (tgt := 262) dL_keeps_192 (by decide) (by unfold sv_in; omega) (by unfold sv_in; omega) (fun h_192 => ?_) (fun h_192 => ?_)
          · obtain rfl : i = 6 + 2 * m 582 := by omega
            have hQ := lw_kq_end hq hkp hgf (by omega) (by omega) he hcn4 hent hkq
            refine sv_aload_n (i := 1) dL_keeps_262 rfl rfl ?_
            refine sv_bipush dL_keeps_263 (by decide) ?_
            refine sv_iload_n (i := 3) dL_keeps_265 rfl rfl ?_
            refine sv_iast dL_keeps_266 hG.1 hG.2 (by omega) (by first | omega | exact hin _ _ | decide | (simp [sv_u, sv_row]; omega) | (simp [sv_u, sv_row]; exact hin _ _) | exact hin1 _ _ | (simp [sv_u, sv_row]; exact hin1 _ _)) ?_
            refine sv_aload_n (i := 1) dL_keeps_267 rfl rfl ?_
            refine sv_bipush dL_keeps_268 (by decide) ?_
            refine sv_dup2 dL_keeps_270 rfl rfl ?_
            refine sv_iald dL_keeps_271 hG.1 hG.2 (by decide) ?_
            refine sv_iconst dL_keeps_272 ?_
            refine sv_iadd dL_keeps_273 ?_
            refine sv_iast dL_keeps_274 hG.1 hG.2 (by decide) (by have e16 : sv_u f2 478 13 (m 580) 478 16 = m 580 := (by simp [sv_u]; rw [o478, g16]); rw [e16]; unfold sv_in; omega) ?_
            have e16 : sv_u f2 478 13 (m 580) 478 16 = m 580 := by simp [sv_u]; rw [o478, g16]
            rw [e16]
            have hJ9 : sv_J S2 r (sv_u (sv_u f2 478 13 (m 580)) 478 16 (m 580 + 1)) m := hJ.hi fun x hx => by rw [sv_u_ne (by omega), sv_u_ne (by omega)]; exact o1 x (by omega) (by omega) (by omega)
            have e478 : ∀ j, sv_u (sv_u f2 478 13 (m 580)) 478 16 (m 580 + 1) 478 j = if j = 16 then m 580 + 1 else if j = 13 then m 580 else f 478 j := fun j => by rw [← o478]; simp [sv_u]
            have e479 : sv_u (sv_u f2 478 13 (m 580)) 478 16 (m 580 + 1) 479 = f2 479 := by rw [sv_u_ne (by decide), sv_u_ne (by decide)]
            refine sv_aload_n (i := 0) dL_keeps_275 rfl rfl ?_
            refine sv_vk0 (As := []) clL_46 dL_keeps_276 ⟨_, rfl, rfl⟩ (by decide) rfl (Nat.le_of_ble_eq_true rfl) (by decide) (by decide) hJ9.k.1 hJ9.k.2 (J_keep hJ9 (by omega)) (fun a9 f9 r9 hf9 => ?_)
            obtain ⟨hx9, ha9, hc9⟩ := hf9
            have hJ3 := hc9 m' hkp
            refine sv_iload_n (i := 3) dL_keeps_279 rfl rfl ?_
            refine sv_icmp_neT (tgt := 287) dL_keeps_280 (by decide) (by omega) ?_
            refine sv_iconst dL_keeps_283 ?_
            refine sv_goto (tgt := 288) dL_keeps_284 (by decide) ?_
            refine sv_zreturn dL_keeps_288 rfl (by decide) ?_
            refine ⟨_, rfl, rfl, m', hJ3, (hJS f9 fun x hx => by rw [hx9 x (by omega), sv_u_ne (by omega), sv_u_ne (by omega)]; exact o1 x (by omega) (by omega) (by omega)), ?_, by rw [hx9 479 (by decide), e479]; exact hQ⟩
            rw [hx9 478 (by decide)]
            obtain ⟨k1, k2, k3, k4, k5, k6, k7, -⟩ := hkp
            refine ⟨fun j j0 j1 => ?_, ?_, ?_, ?_, ?_, ?_⟩
            · rw [k4 582 (by decide) (by decide)] at j1
              rw [e478, if_neg (by omega), if_neg (by omega), k4 _ (by omega) (by omega)]; exact g0 j j0 j1
            · rw [e478, if_neg (by decide), if_neg (by decide), k4 582 (by decide) (by decide)]; exact g12
            · rw [e478, if_neg (by decide), if_pos rfl, k5]; exact hm7.1.symm
            · rw [e478, if_neg (by decide), if_neg (by decide), k6]; exact g14
            · rw [e478, if_neg (by decide), if_neg (by decide), k7]; exact g15
            · rw [e478, if_pos rfl, k2]
          · refine sv_iload dL_keeps_195 rfl ?_
            refine sv_if_eq (tgt := 212) dL_keeps_197 (by decide) (by unfold sv_in; omega) (fun h_197 => ?_) (fun h_197 => ?_)
            · have hei : e i = 1 := by
                rcases hnr with ⟨n1, n2, n3⟩ | ⟨n1, n2⟩
                · rw [(hen n2).2 i, if_neg]
                  intro z
                  rw [← n3 i (by omega) (by omega)] at z
                  first
                  | exact absurd z h_209
                  | omega
                · exact (hew n2).2 i
              obtain ⟨en1, en2⟩ := hent i (by omega) (by omega) hei
              have hv9 : 0 ≤ m (583 + i) ∧ m (583 + i) ≤ 99 := hwg.v i (by omega) (by omega)
              have hwq := (kqw.1 (sp_cnt e i.toNat / 4) (by omega) (by omega)).1
              have hwq2 := (kqw.1 (sp_cnt e i.toNat / 4) (by omega) (by omega)).2.2.2 rfl
              have hwq := And.intro hwq hwq2
              have hmk := lw_mk_bd e i.toNat
              rw [show ((i.toNat : Nat) : Int) = i by omega] at hmk
              have h212 := lw_2_12 (p := i) (by omega) (by omega)
              have hp4 := lw_p_pos (sp_cnt e i.toNat % 4)
              refine sv_aload_n (i := 2) dL_keeps_212 rfl rfl ?_
              refine sv_iload_n (i := 3) dL_keeps_213 rfl rfl ?_
              refine sv_aload_n (i := 2) dL_keeps_214 rfl rfl ?_
              refine sv_bipush dL_keeps_215 (by decide) ?_
              refine sv_iload_n (i := 3) dL_keeps_217 rfl rfl ?_
              refine sv_imul dL_keeps_218 ?_
              refine sv_iconst dL_keeps_219 ?_
              refine sv_iadd dL_keeps_220 ?_
              refine sv_iald dL_keeps_221 hb.1 hb.2 (by omega) ?_
              rw [kq4]
              refine sv_aload_n (i := 1) dL_keeps_222 rfl rfl ?_
              refine sv_iload dL_keeps_223 rfl ?_
              refine sv_iald dL_keeps_225 hG.1 hG.2 (by omega) ?_
              rw [o478, g0 i (by omega) (by omega)]
              refine sv_sv0 (As := [_, _, _, _]) clL_42 dL_keeps_226 rfl (Nat.le_of_ble_eq_true rfl) (by decide) (by decide) (c_L_packs (b := 479) hb (by omega) (by omega) (by omega) hwq) (fun f3 hf3 => ?_)
              subst hf3
              have u3 : sv_u f2 479 (8 * m 580 + 5 + sp_cnt e i.toNat / 4) (f2 479 (8 * m 580 + 5 + sp_cnt e i.toNat / 4) + m (583 + i) * lw_p (sp_cnt e i.toNat % 4)) 479 (8 * m 580 + 3) = lw_mk e i.toNat := by
                rw [← kq3]; simp only [sv_u]; rw [if_neg (by omega)]
              have u4 : ∀ z : Int, sv_u (sv_u f2 479 (8 * m 580 + 5 + sp_cnt e i.toNat / 4) (f2 479 (8 * m 580 + 5 + sp_cnt e i.toNat / 4) + m (583 + i) * lw_p (sp_cnt e i.toNat % 4))) 479 (8 * m 580 + 3) z 479 (8 * m 580 + 4) = sp_cnt e i.toNat := by
                intro z
                rw [← kq4]; simp only [sv_u]; rw [if_neg (by omega), if_neg (by omega)]
              refine sv_aload_n (i := 2) dL_keeps_229 rfl rfl ?_
              refine sv_bipush dL_keeps_230 (by decide) ?_
              refine sv_iload_n (i := 3) dL_keeps_232 rfl rfl ?_
              refine sv_imul dL_keeps_233 ?_
              refine sv_iconst dL_keeps_234 ?_
              refine sv_iadd dL_keeps_235 ?_
              refine sv_dup2 dL_keeps_236 rfl rfl ?_
              refine sv_iald dL_keeps_237 hb.1 hb.2 (by omega) ?_
              rw [u3]
              refine sv_iconst dL_keeps_238 ?_
              refine sv_iload dL_keeps_239 rfl ?_
              refine sv_ishl dL_keeps_241 (bz_1shl (by omega) (by omega)) ?_
              refine sv_ior dL_keeps_242 (bz_bor hmk.1 hmk.2 (by omega) (by omega)) ?_
              refine sv_iast dL_keeps_243 hb.1 hb.2 (by omega) (by unfold sv_in; omega) ?_
              refine sv_aload_n (i := 2) dL_keeps_244 rfl rfl ?_
              refine sv_bipush dL_keeps_245 (by decide) ?_
              refine sv_iload_n (i := 3) dL_keeps_247 rfl rfl ?_
              refine sv_imul dL_keeps_248 ?_
              refine sv_iconst dL_keeps_249 ?_
              refine sv_iadd dL_keeps_250 ?_
              refine sv_dup2 dL_keeps_251 rfl rfl ?_
              refine sv_iald dL_keeps_252 hb.1 hb.2 (by omega) ?_
              rw [u4]
              refine sv_iconst dL_keeps_253 ?_
              refine sv_iadd dL_keeps_254 ?_
              refine sv_iast dL_keeps_255 hb.1 hb.2 (by omega) (by unfold sv_in; omega) ?_
              refine sv_iinc dL_keeps_256 rfl (by decide) rfl ?_
              refine sv_goto (tgt := 183) dL_keeps_259 (by decide) ?_
              first
              | (refine sv_cast (ih (i + 1) _ (by omega) (by omega) (fun z z1 z2 z3 => by rw [sv_u_ne z3, sv_u_ne z3, sv_u_ne z3]; exact o1 z z1 z2 z3) ?_ ?_) rfl rfl rfl rfl rfl rfl
                 · rcases hnr with ⟨n1, n2, n3⟩ | n4
                   · exact Or.inl ⟨n1, n2, fun j j0 j1 => by rw [sv_u_ne (by omega), sv_u_ne (by omega), sv_u_ne (by omega)]; exact n3 j j0 j1⟩
                   · exact Or.inr n4
                 · have hk1 := lw_kq_1 hkq he (by omega) (by omega) hei (v := m (583 + i)) en2 hv9
                   have es : ∀ (F : sv_F) (j a : Int), sv_u F 479 j a 479 = sp_up (F 479) j a := fun F j a => by funext y; simp [sv_u, sp_up]
                   rw [es, es, es]
                   exact hk1)
              | (have hei : e i = 0 := by
                   rcases hnr with ⟨n1, n2, n3⟩ | ⟨n1, n2⟩
                   · rw [(hen n2).2 i, if_pos]
                     rw [← n3 i (by omega) (by omega)]
                     exact h_209
                   · exact absurd n1 h_197
                 exact sv_cast (ih (i + 1) f2 (by omega) (by omega) o1 hnr (lw_kq_0 hkq (by omega) hei)) rfl rfl rfl rfl rfl rfl)
            · refine sv_aload dL_keeps_200 rfl ?_
              refine sv_iload dL_keeps_202 rfl ?_
              refine sv_iald dL_keeps_204 ha.1 ha.2 (by omega) ?_
              refine sv_aload_n (i := 1) dL_keeps_205 rfl rfl ?_
              refine sv_iload dL_keeps_206 rfl ?_
              refine sv_iald dL_keeps_208 hG.1 hG.2 (by omega) ?_
              rw [o478, g0 i (by omega) (by omega)]
              refine sv_icmp_eq (tgt := 256) dL_keeps_209 (by decide) (hin2 _ _) (by have hv9 : 0 ≤ m (583 + i) ∧ m (583 + i) ≤ 99 := hwg.v i (by omega) (by omega); unfold sv_in; omega) (fun h_209 => ?_) (fun h_209 => ?_)
              · refine sv_iinc dL_keeps_256 rfl (by decide) rfl ?_
                refine sv_goto (tgt := 183) dL_keeps_259 (by decide) ?_
                first
                | (refine sv_cast (ih (i + 1) _ (by omega) (by omega) (fun z z1 z2 z3 => by rw [sv_u_ne z3, sv_u_ne z3, sv_u_ne z3]; exact o1 z z1 z2 z3) ?_ ?_) rfl rfl rfl rfl rfl rfl
                   · rcases hnr with ⟨n1, n2, n3⟩ | n4
                     · exact Or.inl ⟨n1, n2, fun j j0 j1 => by rw [sv_u_ne (by omega), sv_u_ne (by omega), sv_u_ne (by omega)]; exact n3 j j0 j1⟩
                     · exact Or.inr n4
                   · have hk1 := lw_kq_1 hkq he (by omega) (by omega) hei (v := m (583 + i)) en2 hv9
                     have es : ∀ (F : sv_F) (j a : Int), sv_u F 479 j a 479 = sp_up (F 479) j a := fun F j a => by funext y; simp [sv_u, sp_up]
                     rw [es, es, es]
                     exact hk1)
                | (have hei : e i = 0 := by
                     rcases hnr with ⟨n1, n2, n3⟩ | ⟨n1, n2⟩
                     · rw [(hen n2).2 i, if_pos]
                       rw [← n3 i (by omega) (by omega)]
                       exact h_209
                     · exact absurd n1 h_197
                   exact sv_cast (ih (i + 1) f2 (by omega) (by omega) o1 hnr (lw_kq_0 hkq (by omega) hei)) rfl rfl rfl rfl rfl rfl)
              · have hei : e i = 1 := by
                  rcases hnr with ⟨n1, n2, n3⟩ | ⟨n1, n2⟩
                  · rw [(hen n2).2 i, if_neg]
                    intro z
                    rw [← n3 i (by omega) (by omega)] at z
                    first
                    | exact absurd z h_209
                    | omega
                  · exact (hew n2).2 i
                obtain ⟨en1, en2⟩ := hent i (by omega) (by omega) hei
                have hv9 : 0 ≤ m (583 + i) ∧ m (583 + i) ≤ 99 := hwg.v i (by omega) (by omega)
                have hwq := (kqw.1 (sp_cnt e i.toNat / 4) (by omega) (by omega)).1
                have hwq2 := (kqw.1 (sp_cnt e i.toNat / 4) (by omega) (by omega)).2.2.2 rfl
                have hwq := And.intro hwq hwq2
                have hmk := lw_mk_bd e i.toNat
                rw [show ((i.toNat : Nat) : Int) = i by omega] at hmk
                have h212 := lw_2_12 (p := i) (by omega) (by omega)
                have hp4 := lw_p_pos (sp_cnt e i.toNat % 4)
                refine sv_aload_n (i := 2) dL_keeps_212 rfl rfl ?_
                refine sv_iload_n (i := 3) dL_keeps_213 rfl rfl ?_
                refine sv_aload_n (i := 2) dL_keeps_214 rfl rfl ?_
                refine sv_bipush dL_keeps_215 (by decide) ?_
                refine sv_iload_n (i := 3) dL_keeps_217 rfl rfl ?_
                refine sv_imul dL_keeps_218 ?_
                refine sv_iconst dL_keeps_219 ?_
                refine sv_iadd dL_keeps_220 ?_
                refine sv_iald dL_keeps_221 hb.1 hb.2 (by omega) ?_
                rw [kq4]
                refine sv_aload_n (i := 1) dL_keeps_222 rfl rfl ?_
                refine sv_iload dL_keeps_223 rfl ?_
                refine sv_iald dL_keeps_225 hG.1 hG.2 (by omega) ?_
                rw [o478, g0 i (by omega) (by omega)]
                refine sv_sv0 (As := [_, _, _, _]) clL_42 dL_keeps_226 rfl (Nat.le_of_ble_eq_true rfl) (by decide) (by decide) (c_L_packs (b := 479) hb (by omega) (by omega) (by omega) hwq) (fun f3 hf3 => ?_)
                subst hf3
                have u3 : sv_u f2 479 (8 * m 580 + 5 + sp_cnt e i.toNat / 4) (f2 479 (8 * m 580 + 5 + sp_cnt e i.toNat / 4) + m (583 + i) * lw_p (sp_cnt e i.toNat % 4)) 479 (8 * m 580 + 3) = lw_mk e i.toNat := by
                  rw [← kq3]; simp only [sv_u]; rw [if_neg (by omega)]
                have u4 : ∀ z : Int, sv_u (sv_u f2 479 (8 * m 580 + 5 + sp_cnt e i.toNat / 4) (f2 479 (8 * m 580 + 5 + sp_cnt e i.toNat / 4) + m (583 + i) * lw_p (sp_cnt e i.toNat % 4))) 479 (8 * m 580 + 3) z 479 (8 * m 580 + 4) = sp_cnt e i.toNat := by
                  intro z
                  rw [← kq4]; simp only [sv_u]; rw [if_neg (by omega), if_neg (by omega)]
                refine sv_aload_n (i := 2) dL_keeps_229 rfl rfl ?_
                refine sv_bipush dL_keeps_230 (by decide) ?_
                refine sv_iload_n (i := 3) dL_keeps_232 rfl rfl ?_
                refine sv_imul dL_keeps_233 ?_
                refine sv_iconst dL_keeps_234 ?_
                refine sv_iadd dL_keeps_235 ?_
                refine sv_dup2 dL_keeps_236 rfl rfl ?_
                refine sv_iald dL_keeps_237 hb.1 hb.2 (by omega) ?_
                rw [u3]
                refine sv_iconst dL_keeps_238 ?_
                refine sv_iload dL_keeps_239 rfl ?_
                refine sv_ishl dL_keeps_241 (bz_1shl (by omega) (by omega)) ?_
                refine sv_ior dL_keeps_242 (bz_bor hmk.1 hmk.2 (by omega) (by omega)) ?_
                refine sv_iast dL_keeps_243 hb.1 hb.2 (by omega) (by unfold sv_in; omega) ?_
                refine sv_aload_n (i := 2) dL_keeps_244 rfl rfl ?_
                refine sv_bipush dL_keeps_245 (by decide) ?_
                refine sv_iload_n (i := 3) dL_keeps_247 rfl rfl ?_
                refine sv_imul dL_keeps_248 ?_
                refine sv_iconst dL_keeps_249 ?_
                refine sv_iadd dL_keeps_250 ?_
                refine sv_dup2 dL_keeps_251 rfl rfl ?_
                refine sv_iald dL_keeps_252 hb.1 hb.2 (by omega) ?_
                rw [u4]
                refine sv_iconst dL_keeps_253 ?_
                refine sv_iadd dL_keeps_254 ?_
                refine sv_iast dL_keeps_255 hb.1 hb.2 (by omega) (by unfold sv_in; omega) ?_
                refine sv_iinc dL_keeps_256 rfl (by decide) rfl ?_
                refine sv_goto (tgt := 183) dL_keeps_259 (by decide) ?_
                first
                | (refine sv_cast (ih (i + 1) _ (by omega) (by omega) (fun z z1 z2 z3 => by rw [sv_u_ne z3, sv_u_ne z3, sv_u_ne z3]; exact o1 z z1 z2 z3) ?_ ?_) rfl rfl rfl rfl rfl rfl
                   · rcases hnr with ⟨n1, n2, n3⟩ | n4
                     · exact Or.inl ⟨n1, n2, fun j j0 j1 => by rw [sv_u_ne (by omega), sv_u_ne (by omega), sv_u_ne (by omega)]; exact n3 j j0 j1⟩
                     · exact Or.inr n4
                   · have hk1 := lw_kq_1 hkq he (by omega) (by omega) hei (v := m (583 + i)) en2 hv9
                     have es : ∀ (F : sv_F) (j a : Int), sv_u F 479 j a 479 = sp_up (F 479) j a := fun F j a => by funext y; simp [sv_u, sp_up]
                     rw [es, es, es]
                     exact hk1)
                | (have hei : e i = 0 := by
                     rcases hnr with ⟨n1, n2, n3⟩ | ⟨n1, n2⟩
                     · rw [(hen n2).2 i, if_pos]
                       rw [← n3 i (by omega) (by omega)]
                       exact h_209
                     · exact absurd n1 h_197
                   exact sv_cast (ih (i + 1) f2 (by omega) (by omega) o1 hnr (lw_kq_0 hkq (by omega) hei)) rfl rfl rfl rfl rfl rfl)
      have o478 : f2 478 = f 478 := o1 478 (by omega) (by omega)
      have o479 : f2 479 = f 479 := o1 479 (by omega) (by omega)
      refine sv_aload_n (i := 2) dL_keeps_119 rfl rfl ?_
      refine sv_bipush dL_keeps_120 (by decide) ?_
      refine sv_iload_n (i := 3) dL_keeps_122 rfl rfl ?_
      refine sv_imul dL_keeps_123 ?_
      refine sv_aload_n (i := 1) dL_keeps_124 rfl rfl ?_
      refine sv_bipush dL_keeps_125 (by decide) ?_
      refine sv_iald dL_keeps_127 hG.1 hG.2 (by decide) ?_
      rw [o478, g12]
      have s478 : sv_u f2 479 (8 * m 580) (m 582) 478 = f 478 := by rw [sv_u_ne (by decide)]; exact o478
      refine sv_iast dL_keeps_128 hb.1 hb.2 (by omega) (by unfold sv_in; omega) ?_
      refine sv_aload_n (i := 2) dL_keeps_129 rfl rfl ?_
      refine sv_bipush dL_keeps_130 (by decide) ?_
      refine sv_iload_n (i := 3) dL_keeps_132 rfl rfl ?_
      refine sv_imul dL_keeps_133 ?_
      refine sv_iconst dL_keeps_134 ?_
      refine sv_iadd dL_keeps_135 ?_
      refine sv_aload_n (i := 1) dL_keeps_136 rfl rfl ?_
      refine sv_sp0 (As := [_]) clL_30 dL_keeps_137 rfl (Nat.le_of_ble_eq_true rfl) (by decide) (by decide) (c_L_sum (a := 478) hG (by decide) (by rw [s478]; omega) (by rw [s478]; exact hg.ok hwg)) ?_
      rw [s478, g12, show sp_sm (f 478) (6 + 2 * m 582).toNat = sp_sm (sp_gv m) (6 + 2 * m 582).toNat from sp_sm_congr (w := sp_gv m) g0]
      refine sv_iast dL_keeps_140 hb.1 hb.2 (by omega) (by have := sp_sm_in (sp_gv m) (6 + 2 * m 582).toNat; unfold sv_in; omega) ?_
      refine sv_aload_n (i := 2) dL_keeps_141 rfl rfl ?_
      refine sv_bipush dL_keeps_142 (by decide) ?_
      refine sv_iload_n (i := 3) dL_keeps_144 rfl rfl ?_
      refine sv_imul dL_keeps_145 ?_
      refine sv_iconst dL_keeps_146 ?_
      refine sv_iadd dL_keeps_147 ?_
      refine sv_iload dL_keeps_148 rfl ?_
      refine sv_if_eq (tgt := 160) dL_keeps_150 (by decide) (by unfold sv_in; omega) (fun h_150 => ?_) (fun h_150 => ?_)
      · refine sv_iconst dL_keeps_160 ?_
        refine sv_iast dL_keeps_161 hb.1 hb.2 (by omega) (by first | decide | (unfold sv_in; omega)) ?_
        refine sv_aload_n (i := 2) dL_keeps_162 rfl rfl ?_
        refine sv_bipush dL_keeps_163 (by decide) ?_
        refine sv_iload_n (i := 3) dL_keeps_165 rfl rfl ?_
        refine sv_imul dL_keeps_166 ?_
        refine sv_iconst dL_keeps_167 ?_
        refine sv_iadd dL_keeps_168 ?_
        refine sv_iconst dL_keeps_169 ?_
        refine sv_iast dL_keeps_170 hb.1 hb.2 (by omega) (by decide) ?_
        refine sv_aload_n (i := 2) dL_keeps_171 rfl rfl ?_
        refine sv_bipush dL_keeps_172 (by decide) ?_
        refine sv_iload_n (i := 3) dL_keeps_174 rfl rfl ?_
        refine sv_imul dL_keeps_175 ?_
        refine sv_iconst dL_keeps_176 ?_
        refine sv_iadd dL_keeps_177 ?_
        refine sv_iconst dL_keeps_178 ?_
        refine sv_iast dL_keeps_179 hb.1 hb.2 (by omega) (by decide) ?_
        refine sv_iconst dL_keeps_180 ?_
        refine sv_istore dL_keeps_181 (by decide) rfl ?_
        first
        | (refine sv_cast (lp (7 + 2 * m 582).toNat 0 _ (by omega) (by omega) (fun z z1 z2 z3 => by rw [sv_u_ne z3, sv_u_ne z3, sv_u_ne z3, sv_u_ne z3, sv_u_ne z3]; exact o1 z z1 z2) ?_ ?_) rfl rfl rfl rfl rfl rfl
           · rcases hnr with ⟨n1, n2, n3⟩ | n4
             · exact Or.inl ⟨n1, n2, fun j j0 j1 => by rw [sv_u_ne (by omega), sv_u_ne (by omega), sv_u_ne (by omega), sv_u_ne (by omega), sv_u_ne (by omega)]; exact n3 j j0 j1⟩
             · exact Or.inr n4
           · have es : ∀ (F : sv_F) (j a : Int), sv_u F 479 j a 479 = sp_up (F 479) j a := fun F j a => by funext y; simp [sv_u, sp_up]
             rw [es, es, es, es, es, o479]
             refine lw_kq_start (fun t t0 t1 => hq.2.2 (m 580) (Int.le_refl _) (by omega) t t0 t1) rfl rfl ?_
             rcases hnr with ⟨n1, n2, n3⟩ | ⟨n1, n2⟩
             · first
               | exact (hen n2).1.symm
               | (exfalso; omega)
             · first
               | exact (hew n2).1.symm
               | (exfalso; omega))
      · refine sv_aload_n (i := 1) dL_keeps_153 rfl rfl ?_
        refine sv_bipush dL_keeps_154 (by decide) ?_
        refine sv_iald dL_keeps_156 hG.1 hG.2 (by decide) ?_
        rw [sv_u_ne (by decide), sv_u_ne (by decide), o478, g13]
        refine sv_goto (tgt := 161) dL_keeps_157 (by decide) ?_
        refine sv_iast dL_keeps_161 hb.1 hb.2 (by omega) (by first | decide | (unfold sv_in; omega)) ?_
        refine sv_aload_n (i := 2) dL_keeps_162 rfl rfl ?_
        refine sv_bipush dL_keeps_163 (by decide) ?_
        refine sv_iload_n (i := 3) dL_keeps_165 rfl rfl ?_
        refine sv_imul dL_keeps_166 ?_
        refine sv_iconst dL_keeps_167 ?_
        refine sv_iadd dL_keeps_168 ?_
        refine sv_iconst dL_keeps_169 ?_
        refine sv_iast dL_keeps_170 hb.1 hb.2 (by omega) (by decide) ?_
        refine sv_aload_n (i := 2) dL_keeps_171 rfl rfl ?_
        refine sv_bipush dL_keeps_172 (by decide) ?_
        refine sv_iload_n (i := 3) dL_keeps_174 rfl rfl ?_
        refine sv_imul dL_keeps_175 ?_
        refine sv_iconst dL_keeps_176 ?_
        refine sv_iadd dL_keeps_177 ?_
        refine sv_iconst dL_keeps_178 ?_
        refine sv_iast dL_keeps_179 hb.1 hb.2 (by omega) (by decide) ?_
        refine sv_iconst dL_keeps_180 ?_
        refine sv_istore dL_keeps_181 (by decide) rfl ?_
        first
        | (refine sv_cast (lp (7 + 2 * m 582).toNat 0 _ (by omega) (by omega) (fun z z1 z2 z3 => by rw [sv_u_ne z3, sv_u_ne z3, sv_u_ne z3, sv_u_ne z3, sv_u_ne z3]; exact o1 z z1 z2) ?_ ?_) rfl rfl rfl rfl rfl rfl
           · rcases hnr with ⟨n1, n2, n3⟩ | n4
             · exact Or.inl ⟨n1, n2, fun j j0 j1 => by rw [sv_u_ne (by omega), sv_u_ne (by omega), sv_u_ne (by omega), sv_u_ne (by omega), sv_u_ne (by omega)]; exact n3 j j0 j1⟩
             · exact Or.inr n4
           · have es : ∀ (F : sv_F) (j a : Int), sv_u F 479 j a 479 = sp_up (F 479) j a := fun F j a => by funext y; simp [sv_u, sp_up]
             rw [es, es, es, es, es, o479]
             refine lw_kq_start (fun t t0 t1 => hq.2.2 (m 580) (Int.le_refl _) (by omega) t t0 t1) rfl rfl ?_
             rcases hnr with ⟨n1, n2, n3⟩ | ⟨n1, n2⟩
             · first
               | exact (hen n2).1.symm
               | (exfalso; omega)
             · first
               | exact (hew n2).1.symm
               | (exfalso; omega))
    have p710 : ∀ f2 : sv_F, (∀ z, z ≠ S.1 → z ≠ S.1 + 1 → f2 z = f z) → ¬ sp_near m → sv_T X (sv_rm 6 2 24) ML_keeps (sv_Zm X 2 24 (fun rv' S' f' r' g' => ∃ a, rv' = some (sv_i a) ∧ a = 1 ∧ sv_LI S' r' f')) 2 24 71 [some (sv_r 0), some (sv_r 478), some (sv_r 479), some (sv_i (m 580)), some (sv_r S.1), some (sv_r (S.1 + 1)), some (sv_i 0), none] [] S2 (f2) r g := by
      intro f2 o1 hnn
      refine sv_iload dL_keeps_71 rfl ?_
      refine sv_if_eq (tgt := 96) dL_keeps_73 (by decide) (by decide) (fun h_73 => ?_) (fun h_73 => absurd rfl h_73)
      refine sv_iload dL_keeps_96 rfl ?_
      refine sv_if_eq (tgt := 116) dL_keeps_98 (by decide) (by decide) (fun h_98 => ?_) (fun h_98 => absurd rfl h_98)
      refine sv_iconst dL_keeps_116 ?_
      refine sv_istore dL_keeps_117 (by decide) rfl ?_
      exact p119 0 f2 o1 (Or.inr ⟨rfl, hnn⟩)
    have p711 : (m 595 ≠ -1) → (sp_R m (m 595) = -1) → (sp_lk m (m 595) < m 596) → ∀ f2 : sv_F, (∀ z, z ≠ S.1 → z ≠ S.1 + 1 → f2 z = f z) → (1 ≤ f2 S.1 12 ∧ f2 S.1 12 ≤ m 582) → (sp_ok (f2 S.1) (6 + 2 * f2 S.1 12)) → (∀ j, 0 ≤ j → j < 6 + 2 * m 582 → lw_to (f2 S.1) (m 582) j = (sp_rz (sp_V m (m 595)) (m (29 * sp_slot m (m 595) + 1)) (m 582)) j) → sv_T X (sv_rm 6 2 24) ML_keeps (sv_Zm X 2 24 (fun rv' S' f' r' g' => ∃ a, rv' = some (sv_i a) ∧ a = 1 ∧ sv_LI S' r' f')) 2 24 71 [some (sv_r 0), some (sv_r 478), some (sv_r 479), some (sv_i (m 580)), some (sv_r S.1), some (sv_r (S.1 + 1)), some (sv_i 1), none] [] S2 (f2) r g := by
      intro hn1 hn2 hn3 f2 o1 o2 o4 o5
      have lp71 : ∀ (kk : Nat) (f2 : sv_F), m 582 - f2 S.1 12 < (kk : Int) → (∀ z, z ≠ S.1 → z ≠ S.1 + 1 → f2 z = f z) → (1 ≤ f2 S.1 12 ∧ f2 S.1 12 ≤ m 582) → (sp_ok (f2 S.1) (6 + 2 * f2 S.1 12)) → (∀ j, 0 ≤ j → j < 6 + 2 * m 582 → lw_to (f2 S.1) (m 582) j = (sp_rz (sp_V m (m 595)) (m (29 * sp_slot m (m 595) + 1)) (m 582)) j) → sv_T X (sv_rm 6 2 24) ML_keeps (sv_Zm X 2 24 (fun rv' S' f' r' g' => ∃ a, rv' = some (sv_i a) ∧ a = 1 ∧ sv_LI S' r' f')) 2 24 71 [some (sv_r 0), some (sv_r 478), some (sv_r 479), some (sv_i (m 580)), some (sv_r S.1), some (sv_r (S.1 + 1)), some (sv_i 1), none] [] S2 (f2) r g := by
        intro kk
        induction kk with
        | zero =>
          intro f2 hkk o1 o2 o4 o5
          exact absurd hkk (by omega)
        | succ kk ih =>
          intro f2 hkk o1 o2 o4 o5
          have o478 : f2 478 = f 478 := o1 478 (by omega) (by omega)
          refine sv_iload dL_keeps_71 rfl ?_
          refine sv_if_eq (tgt := 96) dL_keeps_73 (by decide) (by decide) (fun h_73 => absurd h_73 (by decide)) (fun h_73 => ?_)
          refine sv_aload dL_keeps_76 rfl ?_
          refine sv_bipush dL_keeps_78 (by decide) ?_
          refine sv_iald dL_keeps_80 ha.1 ha.2 (by decide) ?_
          refine sv_aload_n (i := 1) dL_keeps_81 rfl rfl ?_
          refine sv_bipush dL_keeps_82 (by decide) ?_
          refine sv_iald dL_keeps_84 hG.1 hG.2 (by decide) ?_
          rw [o478, g12]
          refine sv_icmp_ge (tgt := 96) dL_keeps_85 (by decide) (by unfold sv_in; omega) (by unfold sv_in; omega) (fun h_85 => ?_) (fun h_85 => ?_)
          · have e12 : f2 S.1 12 = m 582 := by omega
            have hvv : ∀ j, 0 ≤ j → j < 6 + 2 * m 582 → f2 S.1 j = (sp_rz (sp_V m (m 595)) (m (29 * sp_slot m (m 595) + 1)) (m 582)) j := fun j j0 j1 => by
              have := o5 j j0 j1
              rw [lw_to_id (by omega)] at this
              exact this
            have hdn : sp_dn (f2 S.1) (f2 478) (6 + 2 * f2 S.1 12).toNat = sp_gd m (m 595) := by
              rw [e12, o478]
              exact sp_dn_congr hvv g0
            have hgd := sp_gd_in hgf (m 595)
            refine sv_iload dL_keeps_96 rfl ?_
            refine sv_if_eq (tgt := 116) dL_keeps_98 (by decide) (by decide) (fun h_98 => absurd h_98 (by decide)) (fun h_98 => ?_)
            refine sv_aload dL_keeps_101 rfl ?_
            refine sv_aload_n (i := 1) dL_keeps_103 rfl rfl ?_
            refine sv_sp0 (As := [_, _]) clL_38 dL_keeps_104 rfl (Nat.le_of_ble_eq_true rfl) (by decide) (by decide) (c_L_apart (a := S.1) (b := 478) ha hG (by decide) (by decide) (by omega)) ?_
            rw [hdn]
            refine sv_bipush dL_keeps_107 (by decide) ?_
            refine sv_icmp_gt (tgt := 116) dL_keeps_109 (by decide) (by unfold sv_in; omega) (by decide) (fun h_109 => ?_) (fun h_109 => ?_)
            · refine sv_iconst dL_keeps_116 ?_
              refine sv_istore dL_keeps_117 (by decide) rfl ?_
              first
              | exact p119 1 f2 o1 (Or.inl ⟨rfl, ⟨hn1, hn2, hn3, by omega⟩, hvv⟩)
              | exact p119 0 f2 o1 (Or.inr ⟨rfl, fun z => absurd z.2.2.2 (by omega)⟩)
            · refine sv_iconst dL_keeps_112 ?_
              refine sv_goto (tgt := 117) dL_keeps_113 (by decide) ?_
              refine sv_istore dL_keeps_117 (by decide) rfl ?_
              first
              | exact p119 1 f2 o1 (Or.inl ⟨rfl, ⟨hn1, hn2, hn3, by omega⟩, hvv⟩)
              | exact p119 0 f2 o1 (Or.inr ⟨rfl, fun z => absurd z.2.2.2 (by omega)⟩)
          · refine sv_aload dL_keeps_88 rfl ?_
            refine sv_sv0 (As := [_]) clL_23 dL_keeps_90 rfl (Nat.le_of_ble_eq_true rfl) (by decide) (by decide) (c_L_raises (a := S.1) ha (by decide) (by omega) o4) (fun f3 hf3 => ?_)
            refine sv_goto (tgt := 71) dL_keeps_93 (by decide) ?_
            subst hf3
            have e12 : lw_up (f2 S.1) 12 = f2 S.1 12 + 1 := if_pos rfl
            refine ih (sv_row f2 S.1 (lw_up (f2 S.1))) ?_ (fun z z1 z2 => by rw [sv_row_ne z1]; exact o1 z z1 z2) ?_ ?_ (fun j j0 j1 => ?_)
            · rw [sv_row_eq]; omega
            · rw [sv_row_eq]; omega
            · rw [sv_row_eq]; exact lw_up_ok (by omega) o4
            · rw [sv_row_eq, lw_to_up (by omega) (by omega) (by omega)]; exact o5 j j0 j1
      exact lp71 (m 582 - f2 S.1 12 + 1).toNat f2 (by omega) o1 o2 o4 o5
    refine sv_aload_n (i := 1) dL_keeps_25 rfl rfl ?_
    refine sv_bipush dL_keeps_26 (by decide) ?_
    refine sv_iald dL_keeps_28 hG.1 hG.2 (by decide) ?_
    refine sv_iconst dL_keeps_29 ?_
    refine sv_icmp_eq (tgt := 68) dL_keeps_30 (by decide) (by rw [g13]; unfold sv_in; omega) (by decide) (fun h_30 => ?_) (fun h_30 => ?_)
    · refine sv_iconst dL_keeps_68 ?_
      refine sv_istore dL_keeps_69 (by decide) rfl ?_
      first
      | exact p710 f (fun _ _ _ => rfl) (fun z => z.1 (g13.symm.trans h_30))
      | exact p710 f1 hx1 (fun z => h_46 (ha1.trans z.2.1))
      | exact p710 f1 hx1 (fun z => absurd z.2.2.1 (by omega))
      | (have hR : sp_R m (m 595) = -1 := ha1.symm.trans h_46
         obtain ⟨v1, v2⟩ := hV1 hR
         have hr5 := hor h_30
         have hsl := hq.slot hr5.1 hr5.2
         have hfo := hw.frm hr5.1 hr5.2
         have hfo2 : m (29 * m 595 + 1) ≤ m 582 := by
           rcases hwg.o with e | ⟨e1, e2, e3⟩
           · exact absurd e h_30
           · rw [hsl] at e3; exact e3
         have hok := sp_V_ok' hw hR
         rw [hsl] at hok
         refine p711 h_30 hR (by omega) f1 hx1 (by omega) (by rw [v1]; exact fun j j0 j1 => by rw [v2 j j0 j1]; exact hok j j0 j1) (fun j j0 j1 => ?_)
         unfold lw_to
         rw [if_neg (by omega), v1, hsl]
         exact sp_rz_congr hfo.1 hfo2 hgf.2 v2 j j0 j1)
    · refine sv_aload_n (i := 2) dL_keeps_33 rfl rfl ?_
      refine sv_aload_n (i := 1) dL_keeps_34 rfl rfl ?_
      refine sv_bipush dL_keeps_35 (by decide) ?_
      refine sv_iald dL_keeps_37 hG.1 hG.2 (by decide) ?_
      refine sv_aload dL_keeps_38 rfl ?_
      refine sv_aload dL_keeps_40 rfl ?_
      refine sv_si0 (As := [_, _, _, _]) clL_34 dL_keeps_42 rfl (Nat.le_of_ble_eq_true rfl) (by decide) (by decide) (c_L_reads (b := 479) (a := S.1) (c := S.1 + 1) hb hw hq ha hc (by omega) (by omega) (by omega) (by rw [g13]; exact hor (by rw [← g13]; exact h_30))) (fun a1 f1 hf1 => ?_)
      rw [g13] at hf1 h_30
      obtain ⟨ha1, hx1, hV1⟩ := hf1
      have hRb : -1 ≤ sp_R m (m 595) ∧ sp_R m (m 595) ≤ 2 := sp_R_in hw
      refine sv_iconst dL_keeps_45 ?_
      refine sv_icmp_ne (tgt := 68) dL_keeps_46 (by decide) (by unfold sv_in; omega) (by decide) (fun h_46 => ?_) (fun h_46 => ?_)
      · refine sv_iconst dL_keeps_68 ?_
        refine sv_istore dL_keeps_69 (by decide) rfl ?_
        first
        | exact p710 f (fun _ _ _ => rfl) (fun z => z.1 (g13.symm.trans h_30))
        | exact p710 f1 hx1 (fun z => h_46 (ha1.trans z.2.1))
        | exact p710 f1 hx1 (fun z => absurd z.2.2.1 (by omega))
        | (have hR : sp_R m (m 595) = -1 := ha1.symm.trans h_46
           obtain ⟨v1, v2⟩ := hV1 hR
           have hr5 := hor h_30
           have hsl := hq.slot hr5.1 hr5.2
           have hfo := hw.frm hr5.1 hr5.2
           have hfo2 : m (29 * m 595 + 1) ≤ m 582 := by
             rcases hwg.o with e | ⟨e1, e2, e3⟩
             · exact absurd e h_30
             · rw [hsl] at e3; exact e3
           have hok := sp_V_ok' hw hR
           rw [hsl] at hok
           refine p711 h_30 hR (by omega) f1 hx1 (by omega) (by rw [v1]; exact fun j j0 j1 => by rw [v2 j j0 j1]; exact hok j j0 j1) (fun j j0 j1 => ?_)
           unfold lw_to
           rw [if_neg (by omega), v1, hsl]
           exact sp_rz_congr hfo.1 hfo2 hgf.2 v2 j j0 j1)
      · refine sv_aload_n (i := 2) dL_keeps_49 rfl rfl ?_
        refine sv_aload_n (i := 1) dL_keeps_50 rfl rfl ?_
        refine sv_bipush dL_keeps_51 (by decide) ?_
        refine sv_iald dL_keeps_53 hG.1 hG.2 (by decide) ?_
        refine sv_sp0 (As := [_, _]) clL_15 dL_keeps_54 rfl (Nat.le_of_ble_eq_true rfl) (by decide) (by decide) (c_L_links (b := 479) hb hw (by rw [hx1 479 (by omega) (by omega)]; exact hq) (by rw [hx1 478 (by omega) (by omega), g13]; exact hor h_30)) ?_
        rw [hx1 478 (by omega) (by omega), g13]
        have hlkb := sp_lk_bd hw (hor h_30).1
        refine sv_aload_n (i := 1) dL_keeps_57 rfl rfl ?_
        refine sv_bipush dL_keeps_58 (by decide) ?_
        refine sv_iald dL_keeps_60 hG.1 hG.2 (by decide) ?_
        rw [hx1 478 (by omega) (by omega), g14]
        refine sv_icmp_ge (tgt := 68) dL_keeps_61 (by decide) (by unfold sv_in; omega) (by unfold sv_in; omega) (fun h_61 => ?_) (fun h_61 => ?_)
        · refine sv_iconst dL_keeps_68 ?_
          refine sv_istore dL_keeps_69 (by decide) rfl ?_
          first
          | exact p710 f (fun _ _ _ => rfl) (fun z => z.1 (g13.symm.trans h_30))
          | exact p710 f1 hx1 (fun z => h_46 (ha1.trans z.2.1))
          | exact p710 f1 hx1 (fun z => absurd z.2.2.1 (by omega))
          | (have hR : sp_R m (m 595) = -1 := ha1.symm.trans h_46
             obtain ⟨v1, v2⟩ := hV1 hR
             have hr5 := hor h_30
             have hsl := hq.slot hr5.1 hr5.2
             have hfo := hw.frm hr5.1 hr5.2
             have hfo2 : m (29 * m 595 + 1) ≤ m 582 := by
               rcases hwg.o with e | ⟨e1, e2, e3⟩
               · exact absurd e h_30
               · rw [hsl] at e3; exact e3
             have hok := sp_V_ok' hw hR
             rw [hsl] at hok
             refine p711 h_30 hR (by omega) f1 hx1 (by omega) (by rw [v1]; exact fun j j0 j1 => by rw [v2 j j0 j1]; exact hok j j0 j1) (fun j j0 j1 => ?_)
             unfold lw_to
             rw [if_neg (by omega), v1, hsl]
             exact sp_rz_congr hfo.1 hfo2 hgf.2 v2 j j0 j1)
        · refine sv_iconst dL_keeps_64 ?_
          refine sv_goto (tgt := 69) dL_keeps_65 (by decide) ?_
          refine sv_istore dL_keeps_69 (by decide) rfl ?_
          first
          | exact p710 f (fun _ _ _ => rfl) (fun z => z.1 (g13.symm.trans h_30))
          | exact p710 f1 hx1 (fun z => h_46 (ha1.trans z.2.1))
          | exact p710 f1 hx1 (fun z => absurd z.2.2.1 (by omega))
          | (have hR : sp_R m (m 595) = -1 := ha1.symm.trans h_46
             obtain ⟨v1, v2⟩ := hV1 hR
             have hr5 := hor h_30
             have hsl := hq.slot hr5.1 hr5.2
             have hfo := hw.frm hr5.1 hr5.2
             have hfo2 : m (29 * m 595 + 1) ≤ m 582 := by
               rcases hwg.o with e | ⟨e1, e2, e3⟩
               · exact absurd e h_30
               · rw [hsl] at e3; exact e3
             have hok := sp_V_ok' hw hR
             rw [hsl] at hok
             refine p711 h_30 hR (by omega) f1 hx1 (by omega) (by rw [v1]; exact fun j j0 j1 => by rw [v2 j j0 j1]; exact hok j j0 j1) (fun j j0 j1 => ?_)
             unfold lw_to
             rw [if_neg (by omega), v1, hsl]
             exact sp_rz_congr hfo.1 hfo2 hgf.2 v2 j j0 j1)
  refine sv_aload_n (i := 1) dL_keeps_0 rfl rfl ?_
  refine sv_bipush dL_keeps_1 (by decide) ?_
  refine sv_iald dL_keeps_3 hlt hS.2.1 (by decide) ?_
  rw [g16]
  refine sv_istore_n (i := 3) dL_keeps_4 rfl (by decide) rfl ?_
  refine sv_iload_n (i := 3) dL_keeps_5 rfl rfl ?_
  refine sv_bipush dL_keeps_6 (by decide) ?_
  refine sv_icmp_ne (tgt := 13) dL_keeps_8 (by decide) (by unfold sv_in; omega) (by decide) (fun h_8 => ?_) (fun h_8 => ?_)
  · refine sv_bipush dL_keeps_13 (by decide) ?_
    refine sv_aF (a := S.1) rfl rfl (by decide) dL_keeps_15 hS.2.2.2 ⟨by decide, by decide⟩ sv_arI (fun S1 zS1 kS1 eS1 => ?_)
    refine sv_astore dL_keeps_17 (by decide) rfl ?_
    refine sv_bipush dL_keeps_19 (by decide) ?_
    refine sv_aF (a := (S.1 + 1)) zS1 rfl (by decide) dL_keeps_21 (fun x hx => hS.2.2.2 x (by omega)) ⟨by decide, by decide⟩ sv_arI (fun S2 zS2 kS2 eS2 => ?_)
    refine sv_astore dL_keeps_23 (by decide) rfl ?_
    exact main h_8 S2 (by omega) (by rw [eS2 _ (by omega)]; exact kS1) kS2 (fun x hx => by rw [eS2 x (by omega), eS1 x hx])
  · refine sv_widen (k2 := 2) (n2 := 24) (by decide) (by decide) ?_
    refine sv_iconst dL_keeps_11 ?_
    refine sv_zreturn dL_keeps_12 rfl (by decide) ?_
    exact ⟨_, rfl, rfl, m, hJ, hS, hg, hq⟩
