set_option maxRecDepth 100000 in
set_option maxHeartbeats 4000000 in
theorem sv_loop {X : sv_X} (hLL : X.2.2.2.1.2.1 ≤ 2048) : ∀ (kk : Nat) (k : Nat) (S : sv_S) (f : sv_F) (r : sv_R) (g : sv_G), 26 - (k : Int) < (kk : Int) → k ≤ 26 → sv_LI S r f → sv_T X room_1 sv_ML (sv_Zl X) (482 + 4 * k) (5152 + 48 * k) 113 [some (sv_w X.2.2.2.1.1), some (sv_r 0), some (sv_r 478), some (sv_r 479), some (sv_i (k : Nat)), none, none, none, none, none] [] S (f) r g := by
  intro kk
  induction kk with
  | zero =>
    intro k S f r g hkk hk26
    exact absurd hkk (by omega)
  | succ kk ih =>
    intro k S f r g hkk hk26 hL
    by_cases hk25 : k < 26
    · have p113 : sv_T X room_1 sv_ML (sv_Zl X) (482 + 4 * k) (5152 + 48 * k) 113 [some (sv_w X.2.2.2.1.1), some (sv_r 0), some (sv_r 478), some (sv_r 479), some (sv_i (k : Nat)), none, none, none, none, none] [] S (f) r g := by
        have p394 : ∀ (S : sv_S) (f : sv_F) (r : sv_R) (g : sv_G), sv_LI S r f → sv_T X room_1 sv_ML (sv_Zl X) (484 + 4 * k) (5176 + 48 * k) 394 [some (sv_w X.2.2.2.1.1), some (sv_r 0), some (sv_r 478), some (sv_r 479), some (sv_i (k : Nat)), none, none, some (sv_i 1), none, none] [] S (f) r g := by
          intro S f r g hL
          obtain ⟨m, hJ, hS, hg, hq⟩ := hL
          obtain ⟨hw, hwg⟩ := hJ.w
          have hgf := hwg.f
          have hwc := hw.c
          obtain ⟨g0, g12, g13, g14, g15, g16⟩ := id hg
          have h480 := hS.1
          have hlt : 478 < S.1 ∧ S.2 478 = (6, 20) := ⟨by omega, hS.2.1⟩
          have hlq : 479 < S.1 ∧ S.2 479 = (6, 64) := ⟨by omega, hS.2.2.1⟩
          refine sv_iload dL_law_394 rfl ?_
          refine sv_if_eq (tgt := 416) dL_law_396 (by decide) (by decide) (fun h_396 => absurd h_396 (by decide)) (fun h_396 => ?_)
          refine sv_aload_n (i := 1) dL_law_399 rfl rfl ?_
          refine sv_aload_n (i := 2) dL_law_400 rfl rfl ?_
          refine sv_si0 (As := [_, _]) clL_134 dL_law_401 rfl (Nat.le_of_ble_eq_true rfl) (by decide) ⟨by show (484 + 4 * k) ≤ 600000; omega, by show (5176 + 48 * k) ≤ 7302250; omega⟩ (c_L_isGame hJ hS hg hq) (fun a1 f1 hf1 => ?_)
          obtain ⟨ha1, hL1⟩ := hf1
          obtain ⟨m1, hJ, hS, hg, hq⟩ := hL1
          refine sv_if_eq (tgt := 416) dL_law_404 (by decide) (by unfold sv_in; omega) (fun h_404 => absurd h_404 (by omega)) (fun h_404 => ?_)
          refine sv_aload_n (i := 1) dL_law_407 rfl rfl ?_
          refine sv_aload_n (i := 2) dL_law_408 rfl rfl ?_
          refine sv_aload_n (i := 3) dL_law_409 rfl rfl ?_
          refine sv_sq0 (As := [_, _, _]) clL_138 dL_law_410 rfl (Nat.le_of_ble_eq_true rfl) (by decide) ⟨by show (484 + 4 * k) + 2 ≤ 600000; omega, by show (5176 + 48 * k) + 24 ≤ 7302250; omega⟩ (c_L_areKept hJ hS hg hq) (fun rv S2 f2 r2 g2 hq2 => ?_)
          obtain ⟨a2, rfl, ha2, hL2⟩ := hq2
          refine sv_if_ne (tgt := 418) dL_law_413 (by decide) (by unfold sv_in; omega) (fun _ => ?_) (fun h => absurd h (by omega))
          refine sv_iinc dL_law_418 rfl (by decide) rfl ?_
          refine sv_goto (tgt := 113) dL_law_421 (by decide) ?_
          exact sv_castk (sv_wk (ih (k + 1) S2 f2 r2 g2 (by omega) (by omega) hL2) (by simp [sv_sub]) rfl) (by omega) (by omega) rfl rfl rfl rfl rfl rfl
        have p394a : ∀ (S : sv_S) (f : sv_F) (r : sv_R) (g : sv_G), sv_LI S r f → sv_T X room_1 sv_ML (sv_Zl X) (482 + 4 * k) (5152 + 48 * k) 394 [some (sv_w X.2.2.2.1.1), some (sv_r 0), some (sv_r 478), some (sv_r 479), some (sv_i (k : Nat)), none, none, some (sv_i 1), none, none] [] S (f) r g := fun S f r g hL => sv_widen (by omega) (by omega) (p394 S f r g hL)
        obtain ⟨m, hJ, hS, hg, hq⟩ := hL
        obtain ⟨hw, hwg⟩ := hJ.w
        have hgf := hwg.f
        have hwc := hw.c
        obtain ⟨g0, g12, g13, g14, g15, g16⟩ := id hg
        have h480 := hS.1
        have hlt : 478 < S.1 ∧ S.2 478 = (6, 20) := ⟨by omega, hS.2.1⟩
        have hlq : 479 < S.1 ∧ S.2 479 = (6, 64) := ⟨by omega, hS.2.2.1⟩
        have k0 : ∀ x y : Int, sv_T X room_1 sv_ML (sv_Zl X) (482 + 4 * k) (5152 + 48 * k) 188 [some (sv_w X.2.2.2.1.1), some (sv_r 0), some (sv_r 478), some (sv_r 479), some (sv_i (k : Nat)), some (sv_i x), some (sv_i y), none, none, none] [] S (f) r g := by
          intro x y
          refine sv_iload dL_law_188 rfl ?_
          refine sv_iconst dL_law_190 ?_
          refine sv_su0 (As := [_, _]) clL_60 dL_law_191 rfl (Nat.le_of_ble_eq_true rfl) (by decide) ⟨by show (482 + 4 * k) ≤ 600000; omega, by show (5152 + 48 * k) ≤ 7302250; omega⟩ (c_L_low (by decide)) (fun a_191 hb_191 => ?_)
          refine sv_if_gt (tgt := 205) dL_law_194 (by decide) (by unfold sv_in; omega) (fun h_194 => ?_) (fun h_194 => ?_)
          · refine sv_iconst dL_law_205 ?_
            refine sv_goto (tgt := 210) dL_law_206 (by decide) ?_
            refine sv_istore dL_law_210 (by decide) rfl ?_
            refine sv_goto (tgt := 394) dL_law_212 (by decide) ?_
            first
            | exact sv_wk (p394a _ _ _ _ ⟨m, hJ, hS, hg, hq⟩) (by simp [sv_sub]) rfl
            | exact sv_wk (p394a _ _ _ _ hL1) (by simp [sv_sub]) rfl
          · refine sv_aload_n (i := 1) dL_law_197 rfl rfl ?_
            refine sv_aload_n (i := 2) dL_law_198 rfl rfl ?_
            refine sv_sk0 (As := [_, _]) clL_145 dL_law_199 rfl (Nat.le_of_ble_eq_true rfl) (by decide) ⟨by show (482 + 4 * k) ≤ 600000; omega, by show (5152 + 48 * k) ≤ 7302250; omega⟩ (c_L_raisesGame hJ hS hg hq) (fun a1 f1 r1 hf1 => ?_)
            obtain ⟨ha1, hL1⟩ := hf1
            refine sv_if_eq (tgt := 209) dL_law_202 (by decide) (by unfold sv_in; omega) (fun h_202 => absurd h_202 (by omega)) (fun h_202 => ?_)
            refine sv_iconst dL_law_205 ?_
            refine sv_goto (tgt := 210) dL_law_206 (by decide) ?_
            refine sv_istore dL_law_210 (by decide) rfl ?_
            refine sv_goto (tgt := 394) dL_law_212 (by decide) ?_
            first
            | exact sv_wk (p394a _ _ _ _ ⟨m, hJ, hS, hg, hq⟩) (by simp [sv_sub]) rfl
            | exact sv_wk (p394a _ _ _ _ hL1) (by simp [sv_sub]) rfl
        have k1 : ∀ x y : Int, sv_T X room_1 sv_ML (sv_Zl X) (482 + 4 * k) (5152 + 48 * k) 215 [some (sv_w X.2.2.2.1.1), some (sv_r 0), some (sv_r 478), some (sv_r 479), some (sv_i (k : Nat)), some (sv_i x), some (sv_i y), none, none, none] [] S (f) r g := by
          intro x y
          refine sv_aload_n (i := 2) dL_law_215 rfl rfl ?_
          refine sv_bipush dL_law_216 (by decide) ?_
          refine sv_iald dL_law_218 hlt.1 hlt.2 (by decide) ?_
          rw [g16]
          refine sv_if_eq (tgt := 240) dL_law_219 (by decide) (by unfold sv_in; omega) (fun h_219 => ?_) (fun h_219 => ?_)
          · refine sv_iconst dL_law_240 ?_
            refine sv_goto (tgt := 245) dL_law_241 (by decide) ?_
            refine sv_istore dL_law_245 (by decide) rfl ?_
            refine sv_goto (tgt := 394) dL_law_247 (by decide) ?_
            exact sv_wk (p394a _ _ _ _ ⟨m, hJ, hS, hg, hq⟩) (by simp [sv_sub]) rfl
          · refine sv_aload_n (i := 1) dL_law_222 rfl rfl ?_
            refine sv_aload_n (i := 2) dL_law_223 rfl rfl ?_
            refine sv_aload_n (i := 3) dL_law_224 rfl rfl ?_
            refine sv_iload dL_law_225 rfl ?_
            refine sv_aload_n (i := 2) dL_law_227 rfl rfl ?_
            refine sv_bipush dL_law_228 (by decide) ?_
            refine sv_iald dL_law_230 hlt.1 hlt.2 (by decide) ?_
            refine sv_su0 (As := [_, _]) clL_60 dL_law_231 rfl (Nat.le_of_ble_eq_true rfl) (by decide) ⟨by show (482 + 4 * k) ≤ 600000; omega, by show (5152 + 48 * k) ≤ 7302250; omega⟩ (c_L_low (by rw [g16]; omega)) (fun a_231 hb_231 => ?_)
            rw [g16] at hb_231
            refine sv_sq0 (As := [_, _, _, _]) clL_148 dL_law_234 rfl (Nat.le_of_ble_eq_true rfl) (by decide) ⟨by show (482 + 4 * k) + 2 ≤ 600000; omega, by show (5152 + 48 * k) + 24 ≤ 7302250; omega⟩ (c_L_loads hJ hS hg hq hb_231) (fun rv S2 f2 r2 g2 hq2 => ?_)
            obtain ⟨a2, rfl, ha2, hL2⟩ := hq2
            refine sv_if_eq (tgt := 244) dL_law_237 (by decide) (by unfold sv_in; omega) (fun h => absurd h (by omega)) (fun _ => ?_)
            refine sv_iconst dL_law_240 ?_
            refine sv_goto (tgt := 245) dL_law_241 (by decide) ?_
            refine sv_istore dL_law_245 (by decide) rfl ?_
            refine sv_goto (tgt := 394) dL_law_247 (by decide) ?_
            exact sv_castk (sv_wk (p394 S2 f2 r2 g2 hL2) (by simp [sv_sub]) rfl) (by omega) (by omega) rfl rfl rfl rfl rfl rfl
        have k2 : ∀ x y : Int, sv_T X room_1 sv_ML (sv_Zl X) (482 + 4 * k) (5152 + 48 * k) 250 [some (sv_w X.2.2.2.1.1), some (sv_r 0), some (sv_r 478), some (sv_r 479), some (sv_i (k : Nat)), some (sv_i x), some (sv_i y), none, none, none] [] S (f) r g := by
          intro x y
          have p263 : ∀ z : Int, z = 0 ∨ z = 1 → sv_T X room_1 sv_ML (sv_Zl X) (482 + 4 * k) (5152 + 48 * k) 263 [some (sv_w X.2.2.2.1.1), some (sv_r 0), some (sv_r 478), some (sv_r 479), some (sv_i (k : Nat)), some (sv_i x), some (sv_i y), none, some (sv_i z), none] [sv_i (f 478 (14 + z))] S (f) r g := by
            intro z hz
            obtain ⟨was, hwas⟩ : ∃ was, m (596 + z) = was := ⟨_, rfl⟩
            have hw14 : f 478 (14 + z) = was := by
              rw [← hwas]
              rcases hz with rfl | rfl
              · exact g14
              · exact g15
            rw [hw14]
            have p317 : ∀ (m' : Int → Int) (f0 : sv_F) (r : sv_R), sv_J S r f0 m' → sv_JS S f0 → lw_g (f0 478) m' → lw_q (f0 479) m' → sv_T X room_1 sv_ML (sv_Zl X) (482 + 4 * k) (5152 + 48 * k) 317 [some (sv_w X.2.2.2.1.1), some (sv_r 0), some (sv_r 478), some (sv_r 479), some (sv_i (k : Nat)), some (sv_i x), some (sv_i y), none, some (sv_i z), some (sv_i was)] [] S (f0) r g := by
              intro m' f0 r hJ hS hg hq
              have hxx : ∀ x, 478 ≤ x → f0 x = f0 x := fun _ _ => rfl
              refine sv_aload_n (i := 1) dL_law_317 rfl rfl ?_
              refine sv_iconst dL_law_318 ?_
              refine sv_bipush dL_law_319 (by decide) ?_
              refine sv_vk0 (As := [_, _]) clL_152 dL_law_321 ⟨_, rfl, rfl⟩ (by decide) rfl (Nat.le_of_ble_eq_true rfl) (by decide) ⟨by show (482 + 4 * k) ≤ 600000; omega, by show (5152 + 48 * k) ≤ 7302250; omega⟩ hJ.k.1 hJ.k.2 (J_set hJ 0 9 (by decide) (by decide)) (fun b1 f1 r1 hf1 => ?_)
              obtain ⟨hx1, hc1⟩ := hf1
              have hd1 : b1 = -2 ∧ sv_J S r1 f1 m' := by
                rcases hc1 with ⟨-, e2, e3⟩ | ⟨e1, -⟩
                · exact ⟨e2, e3⟩
                · exact absurd e1 (by decide)
              obtain ⟨hb1, hJ⟩ := hd1
              have hxx : ∀ x, 478 ≤ x → f1 x = f0 x := fun x h => (hx1 x h).trans (hxx x h)
              refine sv_bipush dL_law_324 (by decide) ?_
              refine sv_icmp_neT (tgt := 366) dL_law_326 (by decide) hb1 ?_
              refine sv_aload_n (i := 1) dL_law_329 rfl rfl ?_
              refine sv_iconst dL_law_330 ?_
              refine sv_iconst dL_law_331 ?_
              refine sv_vk0 (As := [_, _]) clL_152 dL_law_332 ⟨_, rfl, rfl⟩ (by decide) rfl (Nat.le_of_ble_eq_true rfl) (by decide) ⟨by show (482 + 4 * k) ≤ 600000; omega, by show (5152 + 48 * k) ≤ 7302250; omega⟩ hJ.k.1 hJ.k.2 (J_set hJ 0 0 (by decide) (by decide)) (fun b2 f2 r2 hf2 => ?_)
              obtain ⟨hx2, hc2⟩ := hf2
              have hd2 : b2 = -2 ∧ sv_J S r2 f2 m' := by
                rcases hc2 with ⟨-, e2, e3⟩ | ⟨e1, -⟩
                · exact ⟨e2, e3⟩
                · exact absurd e1 (by decide)
              obtain ⟨hb2, hJ⟩ := hd2
              have hxx : ∀ x, 478 ≤ x → f2 x = f0 x := fun x h => (hx2 x h).trans (hxx x h)
              refine sv_bipush dL_law_335 (by decide) ?_
              refine sv_icmp_neT (tgt := 366) dL_law_337 (by decide) hb2 ?_
              refine sv_aload_n (i := 1) dL_law_340 rfl rfl ?_
              refine sv_iconst dL_law_341 ?_
              refine sv_iconst dL_law_342 ?_
              refine sv_vk0 (As := [_, _]) clL_152 dL_law_343 ⟨_, rfl, rfl⟩ (by decide) rfl (Nat.le_of_ble_eq_true rfl) (by decide) ⟨by show (482 + 4 * k) ≤ 600000; omega, by show (5152 + 48 * k) ≤ 7302250; omega⟩ hJ.k.1 hJ.k.2 (J_set hJ 1 2 (by decide) (by decide)) (fun b3 f3 r3 hf3 => ?_)
              obtain ⟨hx3, hc3⟩ := hf3
              have hd3 : b3 = -2 ∧ sv_J S r3 f3 m' := by
                rcases hc3 with ⟨-, e2, e3⟩ | ⟨e1, -⟩
                · exact ⟨e2, e3⟩
                · exact absurd e1 (by decide)
              obtain ⟨hb3, hJ⟩ := hd3
              have hxx : ∀ x, 478 ≤ x → f3 x = f0 x := fun x h => (hx3 x h).trans (hxx x h)
              refine sv_bipush dL_law_346 (by decide) ?_
              refine sv_icmp_neT (tgt := 366) dL_law_348 (by decide) hb3 ?_
              refine sv_aload_n (i := 1) dL_law_351 rfl rfl ?_
              refine sv_iconst dL_law_352 ?_
              refine sv_iconst dL_law_353 ?_
              refine sv_vk0 (As := [_, _]) clL_152 dL_law_354 ⟨_, rfl, rfl⟩ (by decide) rfl (Nat.le_of_ble_eq_true rfl) (by decide) ⟨by show (482 + 4 * k) ≤ 600000; omega, by show (5152 + 48 * k) ≤ 7302250; omega⟩ hJ.k.1 hJ.k.2 (J_set hJ 2 1 (by decide) (by decide)) (fun b4 f4 r4 hf4 => ?_)
              obtain ⟨hx4, hc4⟩ := hf4
              have hd4 : b4 = -2 ∧ sv_J S r4 f4 m' := by
                rcases hc4 with ⟨-, e2, e3⟩ | ⟨e1, -⟩
                · exact ⟨e2, e3⟩
                · exact absurd e1 (by decide)
              obtain ⟨hb4, hJ⟩ := hd4
              have hxx : ∀ x, 478 ≤ x → f4 x = f0 x := fun x h => (hx4 x h).trans (hxx x h)
              refine sv_bipush dL_law_357 (by decide) ?_
              refine sv_icmp_neT (tgt := 366) dL_law_359 (by decide) hb4 ?_
              refine sv_iconst dL_law_362 ?_
              refine sv_goto (tgt := 367) dL_law_363 (by decide) ?_
              refine sv_istore dL_law_367 (by decide) rfl ?_
              refine sv_goto (tgt := 394) dL_law_369 (by decide) ?_
              exact sv_wk (p394a _ _ _ _ ⟨m', hJ, hS.hi hxx, by rw [hxx 478 (by decide)]; exact hg, by rw [hxx 479 (by decide)]; exact hq⟩) (by simp [sv_sub]) rfl
            have p299 : ∀ v : Int, (0 ≤ z ∧ z ≤ 1 ∧ (if z = 0 then 1 else 0) ≤ v ∧ v ≤ (if z = 0 then 8 else 1)) → sv_T X room_1 sv_ML (sv_Zl X) (482 + 4 * k) (5152 + 48 * k) 299 [some (sv_w X.2.2.2.1.1), some (sv_r 0), some (sv_r 478), some (sv_r 479), some (sv_i (k : Nat)), some (sv_i x), some (sv_i y), none, some (sv_i z), some (sv_i was)] [] S (sv_u f 478 (14 + z) v) r g := by
              intro v hvz
              have hv8 : 0 ≤ v ∧ v ≤ 8 := by obtain ⟨a1, a2, a3, a4⟩ := hvz; split at a3 <;> split at a4 <;> omega
              have hJ9 : sv_J S r (sv_u f 478 (14 + z) v) m := hJ.hi fun x hx => sv_u_ne (by omega)
              have hS9 : sv_JS S (sv_u f 478 (14 + z) v) := hS.cg fun x hx => sv_u_ne (by omega)
              have ez : sv_u f 478 (14 + z) v 478 (14 + z) = v := by simp [sv_u]
              refine sv_aload_n (i := 1) dL_law_299 rfl rfl ?_
              refine sv_iload dL_law_300 rfl ?_
              refine sv_aload_n (i := 2) dL_law_302 rfl rfl ?_
              refine sv_bipush dL_law_303 (by decide) ?_
              refine sv_iload dL_law_305 rfl ?_
              refine sv_iadd dL_law_307 ?_
              refine sv_iald dL_law_308 hlt.1 hlt.2 (by omega) ?_
              rw [ez]
              refine sv_vk0 (As := [_, _]) clL_152 dL_law_309 ⟨_, rfl, rfl⟩ (by decide) rfl (Nat.le_of_ble_eq_true rfl) (by decide) ⟨by show (482 + 4 * k) ≤ 600000; omega, by show (5152 + 48 * k) ≤ 7302250; omega⟩ hJ9.k.1 hJ9.k.2 (J_set hJ9 z v (by unfold sv_in; omega) (by unfold sv_in; omega)) (fun b9 f9 r9 hf9 => ?_)
              obtain ⟨hx9, hc9⟩ := hf9
              have hd9 : b9 = m (596 + z) ∧ sv_J S r9 f9 (sp_up m (596 + z) v) := by
                rcases hc9 with ⟨e1, -⟩ | ⟨-, e2, e3⟩
                · exact absurd hvz e1
                · exact ⟨e2, e3⟩
              obtain ⟨hb9, hJ3⟩ := hd9
              refine sv_iload dL_law_312 rfl ?_
              refine sv_icmp_neT (tgt := 366) dL_law_314 (by decide) (hb9.trans hwas) ?_
              obtain ⟨u1, u2⟩ := lw_up_set (v := v) hgf.2 ⟨by omega, by omega⟩ hg hq (w := z)
              have es : sv_u f 478 (14 + z) v 478 = sp_up (f 478) (14 + z) v := by funext y; simp [sv_u, sp_up]
              exact p317 _ f9 r9 hJ3 (hS9.hi hx9) (by rw [hx9 478 (by decide), es]; exact u1) (by rw [hx9 479 (by decide), sv_u_ne (by decide)]; exact u2)
            refine sv_istore dL_law_263 (by decide) rfl ?_
            refine sv_aload_n (i := 2) dL_law_265 rfl rfl ?_
            refine sv_bipush dL_law_266 (by decide) ?_
            refine sv_iload dL_law_268 rfl ?_
            refine sv_iadd dL_law_270 ?_
            refine sv_iload dL_law_271 rfl ?_
            refine sv_if_ne (tgt := 290) dL_law_273 (by decide) (by unfold sv_in; omega) (fun h_273 => ?_) (fun h_273 => ?_)
            · refine sv_iload dL_law_290 rfl ?_
              refine sv_iconst dL_law_292 ?_
              refine sv_ishrU dL_law_293 (fun z_293 hz_293 => ?_)
              refine sv_iconst dL_law_294 ?_
              refine sv_su0 (As := [_, _]) clL_60 dL_law_295 rfl (Nat.le_of_ble_eq_true rfl) (by decide) ⟨by show (482 + 4 * k) ≤ 600000; omega, by show (5152 + 48 * k) ≤ 7302250; omega⟩ (c_L_low (by decide)) (fun a_295 hb_295 => ?_)
              refine sv_iast dL_law_298 hlt.1 hlt.2 (by omega) (by unfold sv_in; omega) ?_
              first
              | exact p299 _ ⟨by omega, by omega, by rw [if_pos (by omega)]; omega, by rw [if_pos (by omega)]; omega⟩
              | exact p299 _ ⟨by omega, by omega, by rw [if_neg (by omega)]; omega, by rw [if_neg (by omega)]; omega⟩
            · refine sv_iconst dL_law_276 ?_
              refine sv_iload dL_law_277 rfl ?_
              refine sv_iconst dL_law_279 ?_
              refine sv_ishrU dL_law_280 (fun z_280 hz_280 => ?_)
              refine sv_bipush dL_law_281 (by decide) ?_
              refine sv_su0 (As := [_, _]) clL_60 dL_law_283 rfl (Nat.le_of_ble_eq_true rfl) (by decide) ⟨by show (482 + 4 * k) ≤ 600000; omega, by show (5152 + 48 * k) ≤ 7302250; omega⟩ (c_L_low (by decide)) (fun a_283 hb_283 => ?_)
              refine sv_iadd dL_law_286 ?_
              refine sv_goto (tgt := 298) dL_law_287 (by decide) ?_
              refine sv_iast dL_law_298 hlt.1 hlt.2 (by omega) (by unfold sv_in; omega) ?_
              first
              | exact p299 _ ⟨by omega, by omega, by rw [if_pos (by omega)]; omega, by rw [if_pos (by omega)]; omega⟩
              | exact p299 _ ⟨by omega, by omega, by rw [if_neg (by omega)]; omega, by rw [if_neg (by omega)]; omega⟩
          refine sv_iload dL_law_250 rfl ?_
          refine sv_iconst dL_law_252 ?_
          refine sv_iandB dL_law_253 (fun z_253 hz_253 => ?_)
          refine sv_istore dL_law_254 (by decide) rfl ?_
          refine sv_aload_n (i := 2) dL_law_256 rfl rfl ?_
          refine sv_bipush dL_law_257 (by decide) ?_
          refine sv_iload dL_law_259 rfl ?_
          refine sv_iadd dL_law_261 ?_
          refine sv_iald dL_law_262 hlt.1 hlt.2 (by omega) ?_
          exact p263 z_253 hz_253
        have k3 : ∀ x y : Int, sv_T X room_1 sv_ML (sv_Zl X) (482 + 4 * k) (5152 + 48 * k) 372 [some (sv_w X.2.2.2.1.1), some (sv_r 0), some (sv_r 478), some (sv_r 479), some (sv_i (k : Nat)), some (sv_i x), some (sv_i y), none, none, none] [] S (f) r g := by
          intro x y
          refine sv_aload_n (i := 1) dL_law_372 rfl rfl ?_
          refine sv_aload_n (i := 2) dL_law_373 rfl rfl ?_
          refine sv_aload_n (i := 3) dL_law_374 rfl rfl ?_
          refine sv_sq0 (As := [_, _, _]) clL_155 dL_law_375 rfl (Nat.le_of_ble_eq_true rfl) (by decide) ⟨by show (482 + 4 * k) + 2 ≤ 600000; omega, by show (5152 + 48 * k) + 24 ≤ 7302250; omega⟩ (c_L_keeps hJ hS hg hq) (fun rv S2 f2 r2 g2 hq2 => ?_)
          obtain ⟨a2, rfl, rfl, hL2⟩ := hq2
          refine sv_istore dL_law_378 (by decide) rfl ?_
          refine sv_goto (tgt := 394) dL_law_380 (by decide) ?_
          exact sv_castk (sv_wk (p394 S2 f2 r2 g2 hL2) (by simp [sv_sub]) rfl) (by omega) (by omega) rfl rfl rfl rfl rfl rfl
        have k5 : ∀ x y : Int, sv_T X room_1 sv_ML (sv_Zl X) (482 + 4 * k) (5152 + 48 * k) 383 [some (sv_w X.2.2.2.1.1), some (sv_r 0), some (sv_r 478), some (sv_r 479), some (sv_i (k : Nat)), some (sv_i x), some (sv_i y), none, none, none] [] S (f) r g := by
          intro x y
          refine sv_aload_n (i := 1) dL_law_383 rfl rfl ?_
          refine sv_aload_n (i := 2) dL_law_384 rfl rfl ?_
          refine sv_iload dL_law_385 rfl ?_
          refine sv_iload dL_law_387 rfl ?_
          refine sv_sk0 (As := [_, _, _, _]) clL_158 dL_law_389 rfl (Nat.le_of_ble_eq_true rfl) (by decide) ⟨by show (482 + 4 * k) ≤ 600000; omega, by show (5152 + 48 * k) ≤ 7302250; omega⟩ (c_L_plays hJ hS hg hq) (fun a1 f1 r1 hf1 => ?_)
          obtain ⟨ha1, hL1⟩ := hf1
          subst ha1
          refine sv_istore dL_law_392 (by decide) rfl ?_
          exact sv_wk (p394a _ _ _ _ hL1) (by simp [sv_sub]) rfl
        refine sv_iload dL_law_113 rfl ?_
        refine sv_bipush dL_law_115 (by decide) ?_
        refine sv_icmp_ge (tgt := 424) dL_law_117 (by decide) (by unfold sv_in; omega) (by decide) (fun h_117 => ?_) (fun h_117 => ?_)
        · refine sv_iconst dL_law_424 ?_
          exact sv_lret dL_law_425 ⟨by show (482 + 4 * k) ≤ 600000; omega, by show (5152 + 48 * k) ≤ 7302250; omega⟩
        · refine sv_wload_n (i := 0) dL_law_120 rfl rfl ?_
          refine sv_iconst dL_law_121 ?_
          refine sv_iload dL_law_122 rfl ?_
          refine sv_imul dL_law_124 ?_
          refine sv_su0 (As := [_, _]) clL_142 dL_law_125 rfl (Nat.le_of_ble_eq_true rfl) (by decide) ⟨by show (482 + 4 * k) ≤ 600000; omega, by show (5152 + 48 * k) ≤ 7302250; omega⟩ (c_L_cell hLL (by omega)) (fun a_125 hb_125 => ?_)
          refine sv_istore dL_law_128 (by decide) rfl ?_
          refine sv_wload_n (i := 0) dL_law_130 rfl rfl ?_
          refine sv_iconst dL_law_131 ?_
          refine sv_iload dL_law_132 rfl ?_
          refine sv_imul dL_law_134 ?_
          refine sv_iconst dL_law_135 ?_
          refine sv_iadd dL_law_136 ?_
          refine sv_su0 (As := [_, _]) clL_142 dL_law_137 rfl (Nat.le_of_ble_eq_true rfl) (by decide) ⟨by show (482 + 4 * k) ≤ 600000; omega, by show (5152 + 48 * k) ≤ 7302250; omega⟩ (c_L_cell hLL (by omega)) (fun a_137 hb_137 => ?_)
          refine sv_istore dL_law_140 (by decide) rfl ?_
          refine sv_iload dL_law_142 rfl ?_
          refine sv_bipush dL_law_144 (by decide) ?_
          refine sv_ishrU dL_law_146 (fun z_146 hz_146 => ?_)
          refine sv_bipush dL_law_147 (by decide) ?_
          refine sv_su0 (As := [_, _]) clL_60 dL_law_149 rfl (Nat.le_of_ble_eq_true rfl) (by decide) ⟨by show (482 + 4 * k) ≤ 600000; omega, by show (5152 + 48 * k) ≤ 7302250; omega⟩ (c_L_low (by decide)) (fun a_149 hb_149 => ?_)
          generalize a_125 = x
          generalize a_137 = y
          generalize a_149 = z9 at hb_149 ⊢
          by_cases e0 : z9 = 0
          · exact sv_tsw (off := 36) (tgt := 188) dL_law_152 (by unfold sv_in; omega) (by omega) (by omega) (by rw [e0]; rfl) (by decide) (k0 x y)
          by_cases e1 : z9 = 1
          · exact sv_tsw (off := 63) (tgt := 215) dL_law_152 (by unfold sv_in; omega) (by omega) (by omega) (by rw [e1]; rfl) (by decide) (k1 x y)
          by_cases e2 : z9 = 2
          · exact sv_tsw (off := 98) (tgt := 250) dL_law_152 (by unfold sv_in; omega) (by omega) (by omega) (by rw [e2]; rfl) (by decide) (k2 x y)
          by_cases e3 : z9 = 3
          · exact sv_tsw (off := 220) (tgt := 372) dL_law_152 (by unfold sv_in; omega) (by omega) (by omega) (by rw [e3]; rfl) (by decide) (k3 x y)
          by_cases e4 : z9 = 4
          · exact sv_tsw (off := 220) (tgt := 372) dL_law_152 (by unfold sv_in; omega) (by omega) (by omega) (by rw [e4]; rfl) (by decide) (k3 x y)
          exact sv_tswd (tgt := 383) dL_law_152 (by unfold sv_in; omega) (Or.inr (by omega)) (by decide) (k5 x y)

      exact p113
    · refine sv_iload dL_law_113 rfl ?_
      refine sv_bipush dL_law_115 (by decide) ?_
      refine sv_icmp_ge (tgt := 424) dL_law_117 (by decide) (by unfold sv_in; omega) (by decide) (fun _ => ?_) (fun h => absurd h (by omega))
      refine sv_iconst dL_law_424 ?_
      exact sv_lret dL_law_425 ⟨by omega, by omega⟩

