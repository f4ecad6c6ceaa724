section SVLAW2
variable {X : sv_X} {R : Room} {M : sv_M} {Z : sv_Z} {kc ks : Nat} {pc : Nat} {ls : sv_L} {st : List sv_V} {S : sv_S} {f : sv_F} {r : sv_R} {g : sv_G}
theorem sv_vo0 {M' : sv_M} {idx d i ci n : Nat} {As : List sv_V} {P : Int → Prop} (hl : sv_cV M.1.cls idx M' n) (hd : decode M.2.1 pc = .ok (.invokevirtual idx, 3)) (hcl : ∃ q, vwCl[ci]? = some q ∧ q.1 = M'.1.cls) (hci : ci < 6) (hn : As.length = n) (hst : 2 * st.length ≤ 8) (hR : d + 1 ≤ R.frames ∧ 8 + (M'.2.2.1 + 11) + 36 * d ≤ R.locals) (hc : kc ≤ R.cells ∧ ks ≤ R.slots) (hi : i < S.1) (hk : (S.2 i).1 = ci)
    (hM : sv_C X d M' 0 0 (sv_r i :: As) S f r g (fun rv' S' f' r' g' => ∃ a, rv' = some (sv_i a) ∧ S' = S ∧ f' = f ∧ r' = r ∧ g' = g ∧ P a)) (kk : ∀ a, P a → sv_T X R M Z kc ks (pc + 3) ls (sv_i a :: st) S f r g) : sv_T X R M Z kc ks pc ls (As.reverse ++ sv_r i :: st) S f r g := by
  refine sv_callV hl hM hR hc hi hk hcl hci hn hst hd fun rv S' f' r' g' hq => ?_
  obtain ⟨a, rfl, rfl, rfl, rfl, rfl, h⟩ := hq
  exact kk a h
theorem sv_vl0 {M' : sv_M} {idx d i ci n : Nat} {As : List sv_V} {v : Int64} {P : sv_F → sv_G → Prop} (hl : sv_cV M.1.cls idx M' n) (hd : decode M.2.1 pc = .ok (.invokevirtual idx, 3)) (hcl : ∃ q, vwCl[ci]? = some q ∧ q.1 = M'.1.cls) (hci : ci < 6) (hn : As.length = n) (hst : 2 * st.length ≤ 8) (hR : d + 1 ≤ R.frames ∧ 8 + (M'.2.2.1 + 11) + 36 * d ≤ R.locals) (hc : kc ≤ R.cells ∧ ks ≤ R.slots) (hi : i < S.1) (hk : (S.2 i).1 = ci) {Q : sv_Q}
    (hM : sv_C X d M' 0 0 (sv_r i :: As) S f r g Q) (hQ : ∀ rv' S' f' r' g', Q rv' S' f' r' g' → rv' = some (sv_l v) ∧ S' = S ∧ r' = r ∧ P f' g') (kk : ∀ f' g', P f' g' → sv_T X R M Z kc ks (pc + 3) ls (sv_l v :: st) S f' r g') : sv_T X R M Z kc ks pc ls (As.reverse ++ sv_r i :: st) S f r g := by
  refine sv_callV hl hM hR hc hi hk hcl hci hn hst hd fun rv S' f' r' g' hq => ?_
  obtain ⟨rfl, rfl, rfl, h⟩ := hQ _ _ _ _ _ hq
  exact kk f' g' h
end SVLAW2
theorem sv_IW.tx {S : sv_S} {r : sv_R} {f f' : sv_F} {m : Int → Int} {u : Int} {P : Int → Int → Int} {tl tl' : Int} {t t' : Int → Int} {kp mp : Int → Nat} {kq : Int → Int → Nat} (h : sv_IW S r f m u P tl t kp mp kq) (h1 : ∀ x, x < 478 → x ≠ 66 → x ≠ 67 → f' x = f x) (h2 : f' 66 1 = tl') (h3 : f' 67 = t') (h4 : f' (478 + 1) = f (478 + 1)) (h5 : f' (478 + 2) = f (478 + 2)) (h6 : f' 478 2 = f 478 2) (h7 : f' 478 10 = tl') (h8 : f' (478 + 7) = t') (h9 : 0 ≤ tl' ∧ tl' ≤ 80) : sv_IV S r f' := by
  obtain ⟨hok, hve, hre, hsc, hmo, hh, hbd, hmv, hVu, hpv, htl1, htt, hsh, hm, hmu, hmP, hm10, hm7⟩ := h
  refine ⟨m, u, P, tl', t', kp, mp, kq, ⟨hok.1, hok.2.1, hok.2.2.1, hok.2.2.2.1, h9⟩, hve, hre, hsc, hmo, hh, hbd, sv_V1.congr hmo hok.1.c hmv fun x x0 x1 => h1 x (by omega) (by omega) (by omega), by rw [h1 0 (by omega) (by omega) (by omega)]; exact hVu, fun i i0 i1 => ?_, h2, h3, hsh, by rw [h4]; exact hm, by rw [h6]; exact hmu, by rw [h5]; exact hmP, h7, h8⟩
  have hi6 : i < 6 := by have := hok.2.2.1; omega
  have hx := hh.x i0 hi6
  have b := hbd.2.2 i i0 hi6
  have e1 := hx 66 (by simp)
  have e2 := hx 67 (by simp)
  exact sv_V1.congr (hh.o i0 hi6) (hok.2.2.2.1 i i0 i1).1.c (hpv i i0 i1) fun x x0 x1 => h1 x (by omega) (by omega) (by omega)
set_option maxRecDepth 100000 in
set_option maxHeartbeats 4000000 in
theorem L_clear {X : sv_X} {S : sv_S} {f : sv_F} {r : sv_R} {g : sv_G} {m : Int → Int} {u : Int} {P : Int → Int → Int} {tl : Int} {t : Int → Int} {kp mp : Int → Nat} {kq : Int → Int → Nat} {i : Int} (hI : sv_IW S r f m u P tl t kp mp kq) (hi : 0 ≤ i ∧ i + 3 < (X.2.2.2.1.2.1 : Int)) (hk : ∀ (f' : sv_F) (r' : sv_R) (g' : sv_G), sv_IV S r' f' → sv_T X room_1 sv_ML (sv_Zl X) 488 9499 682 [some (sv_w X.2.2.2.1.1), some (sv_r 0), some (sv_r 478), some (sv_i i)] [] S f' r' g') : sv_T X room_1 sv_ML (sv_Zl X) 488 9499 155 [some (sv_w X.2.2.2.1.1), some (sv_r 0), some (sv_r 478), some (sv_i i)] [] S f r g := by
  obtain ⟨⟨hw, hg, hu, hpw, htl⟩, hve, hre, hsc, hmo, hh, hbd, hmv, hVu, hpv, htl1, htt, hsh, hm, hmu, hmP, hm10, hm7⟩ := id hI
  have hp : sv_sep 0 1 92 93 66 67 68 91 (sv_fd 69) := sv_sep0 0
  refine sv_aload_n (i := 1) dL_law_155 rfl rfl ?_
  refine sv_vi0 (As := []) clL_18 dL_law_156 ⟨_, rfl, rfl⟩ (by decide) rfl (Nat.le_of_ble_eq_true rfl) (by decide) (by decide) hve.lt hve.k (c_X4_clear hve hmo hmv hre hw hsc) (fun a f1 hf1 => ?_)
  obtain ⟨ha, hf1⟩ := hf1
  refine sv_aload_n (i := 2) dL_law_159 rfl rfl ?_
  refine sv_vi0 (As := []) clL_22 dL_law_160 ⟨_, rfl, rfl⟩ (by decide) rfl (Nat.le_of_ble_eq_true rfl) (by decide) (by decide) hsh.lt hsh.k (c_X5_clear hsh) (fun b f2 hf2 => ?_)
  obtain ⟨hb, hf2⟩ := hf2
  have hab : a = b := by rw [ha, hb, hf1, htl1, sv_u_ne (by decide), hm10]
  subst hab
  refine sv_icmp_eqs (tgt := 682) dL_law_163 (by decide) (hk _ _ _ (hI.tx (tl' := 0) (t' := t) (fun x x0 x1 x2 => ?_) ?_ ?_ ?_ ?_ ?_ ?_ ?_ (by decide)))
  · rw [hf2, hf1, sv_u_ne (by omega), sv_u_ne x1]
  · rw [hf2, hf1, sv_u_ne (by decide)]; simp [sv_u]
  · rw [hf2, hf1, sv_u_ne (by decide), sv_u_ne (by decide)]; exact htt
  · rw [hf2, hf1, sv_u_ne (by decide), sv_u_ne (by decide)]
  · rw [hf2, hf1, sv_u_ne (by decide), sv_u_ne (by decide)]
  · rw [hf2, hf1]; simp [sv_u]
  · rw [hf2, hf1]; simp [sv_u]
  · rw [hf2, hf1, sv_u_ne (by decide), sv_u_ne (by decide)]; exact hm7
set_option maxRecDepth 100000 in
set_option maxHeartbeats 4000000 in
theorem L_type {X : sv_X} {S : sv_S} {f : sv_F} {r : sv_R} {g : sv_G} {m : Int → Int} {u : Int} {P : Int → Int → Int} {tl : Int} {t : Int → Int} {kp mp : Int → Nat} {kq : Int → Int → Nat} {i : Int} (hI : sv_IW S r f m u P tl t kp mp kq) (hi : 0 ≤ i ∧ i + 3 < (X.2.2.2.1.2.1 : Int)) (hk : ∀ (f' : sv_F) (r' : sv_R) (g' : sv_G), sv_IV S r' f' → sv_T X room_1 sv_ML (sv_Zl X) 488 9499 682 [some (sv_w X.2.2.2.1.1), some (sv_r 0), some (sv_r 478), some (sv_i i)] [] S f' r' g') : sv_T X room_1 sv_ML (sv_Zl X) 488 9499 132 [some (sv_w X.2.2.2.1.1), some (sv_r 0), some (sv_r 478), some (sv_i i)] [] S f r g := by
  obtain ⟨⟨hw, hg, hu, hpw, htl⟩, hve, hre, hsc, hmo, hh, hbd, hmv, hVu, hpv, htl1, htt, hsh, hm, hmu, hmP, hm10, hm7⟩ := id hI
  have hp : sv_sep 0 1 92 93 66 67 68 91 (sv_fd 69) := sv_sep0 0
  refine sv_aload_n (i := 1) dL_law_132 rfl rfl ?_
  refine sv_wload_n (i := 0) dL_law_133 rfl rfl ?_
  refine sv_iload_n (i := 3) dL_law_134 rfl rfl ?_
  refine sv_iconst dL_law_135 ?_
  refine sv_iadd dL_law_136 ?_
  refine sv_sld (by omega) dL_law_137 ?_
  refine sv_vi0 (As := [_]) clL_13 dL_law_138 ⟨_, rfl, rfl⟩ (by decide) rfl (Nat.le_of_ble_eq_true rfl) (by decide) (by decide) hve.lt hve.k (c_X4_type hve hmo hmv hre hw hsc (by rw [htl1]; exact htl) _ (sv_in32 _)) (fun a f1 hf1 => ?_)
  rw [htl1] at hf1
  have hx1 : ∀ x, x ≠ 66 → x ≠ 67 → f1 x = f x := fun x x1 x2 => by
    rcases hf1 with ⟨-, -, rfl⟩ | ⟨-, -, -, -, rfl⟩ | ⟨-, -, -, -, h⟩
    · rfl
    · rfl
    · rw [h, sv_u_ne x1, sv_u_ne x2]
  refine sv_aload_n (i := 2) dL_law_141 rfl rfl ?_
  refine sv_wload_n (i := 0) dL_law_142 rfl rfl ?_
  refine sv_iload_n (i := 3) dL_law_143 rfl rfl ?_
  refine sv_iconst dL_law_144 ?_
  refine sv_iadd dL_law_145 ?_
  refine sv_sld (by omega) dL_law_146 ?_
  refine sv_vi0 (As := [_]) clL_17 dL_law_147 ⟨_, rfl, rfl⟩ (by decide) rfl (Nat.le_of_ble_eq_true rfl) (by decide) (by decide) hsh.lt hsh.k (c_X5_type hsh (by rw [hx1 478 (by decide) (by decide), hm10]; exact htl) _ (sv_in32 _)) (fun b f2 hf2 => ?_)
  rw [hx1 478 (by decide) (by decide), hm10] at hf2
  have hfin : a = b ∧ sv_IV S r f2 := by
    rcases hf1 with ⟨h3, ha, rfl⟩ | ⟨h3, h4, h5, ha, rfl⟩ | ⟨h3, h4, h5, ha, h6⟩
    · rcases hf2 with ⟨g3, hb, rfl⟩ | ⟨g3, g4, g5, hb, rfl⟩ | ⟨g3, g4, g5, hb, g6⟩
      · exact ⟨ha.trans hb.symm, ⟨_, _, _, _, _, _, _, _, hI⟩⟩
      · omega
      · omega
    · rcases hf2 with ⟨g3, hb, rfl⟩ | ⟨g3, g4, g5, hb, rfl⟩ | ⟨g3, g4, g5, hb, g6⟩
      · omega
      · exact ⟨ha.trans hb.symm, ⟨_, _, _, _, _, _, _, _, hI⟩⟩
      · omega
    · rcases hf2 with ⟨g3, hb, rfl⟩ | ⟨g3, g4, g5, hb, rfl⟩ | ⟨g3, g4, g5, hb, g6⟩
      · omega
      · omega
      · refine ⟨ha.trans hb.symm, hI.tx (tl' := tl + 1) (t' := f1 67) (fun x x0 x1 x2 => ?_) ?_ ?_ ?_ ?_ ?_ ?_ ?_ (by omega)⟩
        · rw [g6, sv_u_ne (by omega), sv_u_ne (by omega)]; exact hx1 x x1 x2
        · rw [g6, sv_u_ne (by decide), sv_u_ne (by decide), h6]; simp [sv_u]
        · rw [g6, sv_u_ne (by decide), sv_u_ne (by decide)]
        · rw [g6, sv_u_ne (by decide), sv_u_ne (by decide)]; exact hx1 _ (by decide) (by decide)
        · rw [g6, sv_u_ne (by decide), sv_u_ne (by decide)]; exact hx1 _ (by decide) (by decide)
        · rw [g6]; simp only [sv_u]; rw [if_neg (by omega), if_neg (by omega), hx1 478 (by decide) (by decide)]
        · rw [g6]; simp [sv_u]
        · rw [g6, sv_u_ne (by decide), h6]
          funext j
          rw [sv_u_at, ← h6, hx1 (478 + 7) (by decide) (by decide), hm7, h6]
          simp only [sv_u]
          rw [htt]
          by_cases e : j = tl
          · subst e; simp
          · simp [e]
  obtain ⟨hab, hIV⟩ := hfin
  subst hab
  exact sv_icmp_eqs (tgt := 682) dL_law_150 (by decide) (hk _ _ _ hIV)
set_option maxRecDepth 100000 in
set_option maxHeartbeats 4000000 in
theorem L_fork {X : sv_X} {S : sv_S} {f : sv_F} {r : sv_R} {g : sv_G} {m : Int → Int} {u : Int} {P : Int → Int → Int} {tl : Int} {t : Int → Int} {kp mp : Int → Nat} {kq : Int → Int → Nat} {i : Int} (hI : sv_IW S r f m u P tl t kp mp kq) (hi : 0 ≤ i ∧ i + 3 < (X.2.2.2.1.2.1 : Int)) (hk : ∀ (f' : sv_F) (r' : sv_R) (g' : sv_G), sv_IV S r' f' → sv_T X room_1 sv_ML (sv_Zl X) 488 9499 682 [some (sv_w X.2.2.2.1.1), some (sv_r 0), some (sv_r 478), some (sv_i i)] [] S f' r' g') : sv_T X room_1 sv_ML (sv_Zl X) 488 9499 599 [some (sv_w X.2.2.2.1.1), some (sv_r 0), some (sv_r 478), some (sv_i i)] [] S f r g := by
  obtain ⟨⟨hw, hg, hu, hpw, htl⟩, hve, hre, hsc, hmo, hh, hbd, hmv, hVu, hpv, htl1, htt, hsh, hm, hmu, hmP, hm10, hm7⟩ := id hI
  have hp : sv_sep 0 1 92 93 66 67 68 91 (sv_fd 69) := sv_sep0 0
  refine sv_aload_n (i := 1) dL_law_599 rfl rfl ?_
  refine sv_wload_n (i := 0) dL_law_600 rfl rfl ?_
  refine sv_iload_n (i := 3) dL_law_601 rfl rfl ?_
  refine sv_iconst dL_law_602 ?_
  refine sv_iadd dL_law_603 ?_
  refine sv_sld (by omega) dL_law_604 ?_
  refine sv_wload_n (i := 0) dL_law_605 rfl rfl ?_
  refine sv_iload_n (i := 3) dL_law_606 rfl rfl ?_
  refine sv_iconst dL_law_607 ?_
  refine sv_iadd dL_law_608 ?_
  refine sv_sld (by omega) dL_law_609 ?_
  refine sv_vo0 (As := [_, _]) clL_86 dL_law_610 ⟨_, rfl, rfl⟩ (by decide) rfl (Nat.le_of_ble_eq_true rfl) (by decide) (by decide) hve.lt hve.k (c_X4_fork hve hmo hmv hre hw _ _ (sv_in32 _) (sv_in32 _)) (fun a hf1 => ?_)
  refine sv_aload_n (i := 2) dL_law_613 rfl rfl ?_
  refine sv_wload_n (i := 0) dL_law_614 rfl rfl ?_
  refine sv_iload_n (i := 3) dL_law_615 rfl rfl ?_
  refine sv_iconst dL_law_616 ?_
  refine sv_iadd dL_law_617 ?_
  refine sv_sld (by omega) dL_law_618 ?_
  refine sv_wload_n (i := 0) dL_law_619 rfl rfl ?_
  refine sv_iload_n (i := 3) dL_law_620 rfl rfl ?_
  refine sv_iconst dL_law_621 ?_
  refine sv_iadd dL_law_622 ?_
  refine sv_sld (by omega) dL_law_623 ?_
  refine sv_vi0 (As := [_, _]) clL_89 dL_law_624 ⟨_, rfl, rfl⟩ (by decide) rfl (Nat.le_of_ble_eq_true rfl) (by decide) (by decide) hsh.lt hsh.k (c_X5_fork hsh hm hw _ _ (sv_in32 _) (sv_in32 _)) (fun b f2 hf2 => ?_)
  obtain ⟨hb, hsq⟩ := hf2
  have hab : a = b := by
    rcases hf1 with ⟨h1, h2⟩ | ⟨h1, h2, h3⟩
    · rcases hb with ⟨g1, g2⟩ | ⟨g1, g2, g3⟩
      · exact h2.trans g2.symm
      · rcases h1 with h1 | h1
        · exact absurd h1 g1
        · exact absurd h1 g2
    · rcases hb with ⟨g1, g2⟩ | ⟨g1, g2, g3⟩
      · rcases g1 with g1 | g1
        · exact absurd g1 h1
        · exact absurd g1 h2
      · exact sp_fk_uniq h3 g3
  subst hab
  have hI := hI.sq hsq
  exact sv_icmp_eqs (tgt := 682) dL_law_627 (by decide) (hk _ _ _ ⟨_, _, _, _, _, _, _, _, hI⟩)
set_option maxRecDepth 100000 in
set_option maxHeartbeats 4000000 in
theorem L_drop {X : sv_X} {S : sv_S} {f : sv_F} {r : sv_R} {g : sv_G} {m : Int → Int} {u : Int} {P : Int → Int → Int} {tl : Int} {t : Int → Int} {kp mp : Int → Nat} {kq : Int → Int → Nat} {i : Int} (hI : sv_IW S r f m u P tl t kp mp kq) (hi : 0 ≤ i ∧ i + 3 < (X.2.2.2.1.2.1 : Int)) (hk : ∀ (f' : sv_F) (r' : sv_R) (g' : sv_G), sv_IV S r' f' → sv_T X room_1 sv_ML (sv_Zl X) 488 9499 682 [some (sv_w X.2.2.2.1.1), some (sv_r 0), some (sv_r 478), some (sv_i i)] [] S f' r' g') : sv_T X room_1 sv_ML (sv_Zl X) 488 9499 230 [some (sv_w X.2.2.2.1.1), some (sv_r 0), some (sv_r 478), some (sv_i i)] [] S f r g := by
  obtain ⟨⟨hw, hg, hu, hpw, htl⟩, hve, hre, hsc, hmo, hh, hbd, hmv, hVu, hpv, htl1, htt, hsh, hm, hmu, hmP, hm10, hm7⟩ := id hI
  have hp : sv_sep 0 1 92 93 66 67 68 91 (sv_fd 69) := sv_sep0 0
  refine sv_aload_n (i := 1) dL_law_230 rfl rfl ?_
  refine sv_wload_n (i := 0) dL_law_231 rfl rfl ?_
  refine sv_iload_n (i := 3) dL_law_232 rfl rfl ?_
  refine sv_iconst dL_law_233 ?_
  refine sv_iadd dL_law_234 ?_
  refine sv_sld (by omega) dL_law_235 ?_
  refine sv_wload_n (i := 0) dL_law_236 rfl rfl ?_
  refine sv_iload_n (i := 3) dL_law_237 rfl rfl ?_
  refine sv_iconst dL_law_238 ?_
  refine sv_iadd dL_law_239 ?_
  refine sv_sld (by omega) dL_law_240 ?_
  refine sv_if_eq (tgt := 248) dL_law_241 (by decide) (sv_in32 _) (fun h_241 => ?_) (fun h_241 => ?_)
  · refine sv_iconst dL_law_248 ?_
    refine sv_vk0 (As := [_, _]) clL_39 dL_law_249 ⟨_, rfl, rfl⟩ (by decide) rfl (Nat.le_of_ble_eq_true rfl) (by decide) (by decide) hve.lt hve.k (c_X4_drop hve hmo hmv hre hw hsc hp hh hu hVu hpv hpw hg _ _ (sv_in32 _) (by decide)) (fun a f1 r1 hf1 => ?_)
    have hM : sv_M5 S r1 478 ∧ ∀ x, 478 ≤ x → f1 x = f x := by
      rcases hf1 with ⟨-, -, rfl, rfl⟩ | ⟨-, -, hn⟩
      · exact ⟨hsh, fun _ _ => rfl⟩
      · exact hI.md hn
    obtain ⟨hsh, hx1⟩ := hM
    have hm1 : f1 (478 + 1) = m := by rw [hx1 _ (by omega)]; exact hm
    have hu1 : 0 ≤ f1 478 2 ∧ f1 478 2 ≤ 6 := by rw [hx1 478 (by omega), hmu]; exact hu
    refine sv_aload_n (i := 2) dL_law_252 rfl rfl ?_
    refine sv_wload_n (i := 0) dL_law_253 rfl rfl ?_
    refine sv_iload_n (i := 3) dL_law_254 rfl rfl ?_
    refine sv_iconst dL_law_255 ?_
    refine sv_iadd dL_law_256 ?_
    refine sv_sld (by omega) dL_law_257 ?_
    refine sv_wload_n (i := 0) dL_law_258 rfl rfl ?_
    refine sv_iload_n (i := 3) dL_law_259 rfl rfl ?_
    refine sv_iconst dL_law_260 ?_
    refine sv_iadd dL_law_261 ?_
    refine sv_sld (by omega) dL_law_262 ?_
    refine sv_if_eq (tgt := 270) dL_law_263 (by decide) (sv_in32 _) (fun h_263 => ?_) (fun h_263 => ?_)
    · refine sv_iconst dL_law_270 ?_
      refine sv_vi0 (As := [_, _]) clL_43 dL_law_271 ⟨_, rfl, rfl⟩ (by decide) rfl (Nat.le_of_ble_eq_true rfl) (by decide) (by decide) hsh.lt hsh.k (c_X5_drop hsh hm1 hw _ _ (sv_in32 _) (by decide) hu1) (fun b f2 hf2 => ?_)
      have hfin : a = b ∧ sv_IV S r1 f2 := by
        first
        | exact absurd h_263 h_241
        | exact absurd h_241 h_263
        | (rcases hf1 with ⟨h3, ha, rfl, rfl⟩ | ⟨h3, ha, hn⟩
           · rcases hf2 with ⟨g3, hb, rfl⟩ | ⟨g3, hb, hc, hr⟩
             · exact ⟨ha.trans hb.symm, ⟨_, _, _, _, _, _, _, _, hI⟩⟩
             · exact absurd h3 g3
           · rcases hf2 with ⟨g3, hb, rfl⟩ | ⟨g3, hb, hc, hr⟩
             · exact absurd g3 h3
             · exact ⟨ha.trans hb.symm, hI.ch hn (sp_drop_ok hw hg h3) hc hr⟩)
      obtain ⟨hab, hIV⟩ := hfin
      subst hab
      exact sv_icmp_eqs (tgt := 682) dL_law_274 (by decide) (hk _ _ _ hIV)
    · refine sv_iconst dL_law_266 ?_
      refine sv_goto (tgt := 271) dL_law_267 (by decide) ?_
      refine sv_vi0 (As := [_, _]) clL_43 dL_law_271 ⟨_, rfl, rfl⟩ (by decide) rfl (Nat.le_of_ble_eq_true rfl) (by decide) (by decide) hsh.lt hsh.k (c_X5_drop hsh hm1 hw _ _ (sv_in32 _) (by decide) hu1) (fun b f2 hf2 => ?_)
      have hfin : a = b ∧ sv_IV S r1 f2 := by
        first
        | exact absurd h_263 h_241
        | exact absurd h_241 h_263
        | (rcases hf1 with ⟨h3, ha, rfl, rfl⟩ | ⟨h3, ha, hn⟩
           · rcases hf2 with ⟨g3, hb, rfl⟩ | ⟨g3, hb, hc, hr⟩
             · exact ⟨ha.trans hb.symm, ⟨_, _, _, _, _, _, _, _, hI⟩⟩
             · exact absurd h3 g3
           · rcases hf2 with ⟨g3, hb, rfl⟩ | ⟨g3, hb, hc, hr⟩
             · exact absurd g3 h3
             · exact ⟨ha.trans hb.symm, hI.ch hn (sp_drop_ok hw hg h3) hc hr⟩)
      obtain ⟨hab, hIV⟩ := hfin
      subst hab
      exact sv_icmp_eqs (tgt := 682) dL_law_274 (by decide) (hk _ _ _ hIV)
  · refine sv_iconst dL_law_244 ?_
    refine sv_goto (tgt := 249) dL_law_245 (by decide) ?_
    refine sv_vk0 (As := [_, _]) clL_39 dL_law_249 ⟨_, rfl, rfl⟩ (by decide) rfl (Nat.le_of_ble_eq_true rfl) (by decide) (by decide) hve.lt hve.k (c_X4_drop hve hmo hmv hre hw hsc hp hh hu hVu hpv hpw hg _ _ (sv_in32 _) (by decide)) (fun a f1 r1 hf1 => ?_)
    have hM : sv_M5 S r1 478 ∧ ∀ x, 478 ≤ x → f1 x = f x := by
      rcases hf1 with ⟨-, -, rfl, rfl⟩ | ⟨-, -, hn⟩
      · exact ⟨hsh, fun _ _ => rfl⟩
      · exact hI.md hn
    obtain ⟨hsh, hx1⟩ := hM
    have hm1 : f1 (478 + 1) = m := by rw [hx1 _ (by omega)]; exact hm
    have hu1 : 0 ≤ f1 478 2 ∧ f1 478 2 ≤ 6 := by rw [hx1 478 (by omega), hmu]; exact hu
    refine sv_aload_n (i := 2) dL_law_252 rfl rfl ?_
    refine sv_wload_n (i := 0) dL_law_253 rfl rfl ?_
    refine sv_iload_n (i := 3) dL_law_254 rfl rfl ?_
    refine sv_iconst dL_law_255 ?_
    refine sv_iadd dL_law_256 ?_
    refine sv_sld (by omega) dL_law_257 ?_
    refine sv_wload_n (i := 0) dL_law_258 rfl rfl ?_
    refine sv_iload_n (i := 3) dL_law_259 rfl rfl ?_
    refine sv_iconst dL_law_260 ?_
    refine sv_iadd dL_law_261 ?_
    refine sv_sld (by omega) dL_law_262 ?_
    refine sv_if_eq (tgt := 270) dL_law_263 (by decide) (sv_in32 _) (fun h_263 => ?_) (fun h_263 => ?_)
    · refine sv_iconst dL_law_270 ?_
      refine sv_vi0 (As := [_, _]) clL_43 dL_law_271 ⟨_, rfl, rfl⟩ (by decide) rfl (Nat.le_of_ble_eq_true rfl) (by decide) (by decide) hsh.lt hsh.k (c_X5_drop hsh hm1 hw _ _ (sv_in32 _) (by decide) hu1) (fun b f2 hf2 => ?_)
      have hfin : a = b ∧ sv_IV S r1 f2 := by
        first
        | exact absurd h_263 h_241
        | exact absurd h_241 h_263
        | (rcases hf1 with ⟨h3, ha, rfl, rfl⟩ | ⟨h3, ha, hn⟩
           · rcases hf2 with ⟨g3, hb, rfl⟩ | ⟨g3, hb, hc, hr⟩
             · exact ⟨ha.trans hb.symm, ⟨_, _, _, _, _, _, _, _, hI⟩⟩
             · exact absurd h3 g3
           · rcases hf2 with ⟨g3, hb, rfl⟩ | ⟨g3, hb, hc, hr⟩
             · exact absurd g3 h3
             · exact ⟨ha.trans hb.symm, hI.ch hn (sp_drop_ok hw hg h3) hc hr⟩)
      obtain ⟨hab, hIV⟩ := hfin
      subst hab
      exact sv_icmp_eqs (tgt := 682) dL_law_274 (by decide) (hk _ _ _ hIV)
    · refine sv_iconst dL_law_266 ?_
      refine sv_goto (tgt := 271) dL_law_267 (by decide) ?_
      refine sv_vi0 (As := [_, _]) clL_43 dL_law_271 ⟨_, rfl, rfl⟩ (by decide) rfl (Nat.le_of_ble_eq_true rfl) (by decide) (by decide) hsh.lt hsh.k (c_X5_drop hsh hm1 hw _ _ (sv_in32 _) (by decide) hu1) (fun b f2 hf2 => ?_)
      have hfin : a = b ∧ sv_IV S r1 f2 := by
        first
        | exact absurd h_263 h_241
        | exact absurd h_241 h_263
        | (rcases hf1 with ⟨h3, ha, rfl, rfl⟩ | ⟨h3, ha, hn⟩
           · rcases hf2 with ⟨g3, hb, rfl⟩ | ⟨g3, hb, hc, hr⟩
             · exact ⟨ha.trans hb.symm, ⟨_, _, _, _, _, _, _, _, hI⟩⟩
             · exact absurd h3 g3
           · rcases hf2 with ⟨g3, hb, rfl⟩ | ⟨g3, hb, hc, hr⟩
             · exact absurd g3 h3
             · exact ⟨ha.trans hb.symm, hI.ch hn (sp_drop_ok hw hg h3) hc hr⟩)
      obtain ⟨hab, hIV⟩ := hfin
      subst hab
      exact sv_icmp_eqs (tgt := 682) dL_law_274 (by decide) (hk _ _ _ hIV)
set_option maxRecDepth 100000 in
set_option maxHeartbeats 4000000 in
theorem L_digest {X : sv_X} {S : sv_S} {f : sv_F} {r : sv_R} {g : sv_G} {m : Int → Int} {u : Int} {P : Int → Int → Int} {tl : Int} {t : Int → Int} {kp mp : Int → Nat} {kq : Int → Int → Nat} {i : Int} (hI : sv_IW S r f m u P tl t kp mp kq) (hi : 0 ≤ i ∧ i + 3 < (X.2.2.2.1.2.1 : Int)) (hk : ∀ (f' : sv_F) (r' : sv_R) (g' : sv_G), sv_IV S r' f' → sv_T X room_1 sv_ML (sv_Zl X) 488 9499 682 [some (sv_w X.2.2.2.1.1), some (sv_r 0), some (sv_r 478), some (sv_i i)] [] S f' r' g') : sv_T X room_1 sv_ML (sv_Zl X) 488 9499 668 [some (sv_w X.2.2.2.1.1), some (sv_r 0), some (sv_r 478), some (sv_i i)] [] S f r g := by
  obtain ⟨⟨hw, hg, hu, hpw, htl⟩, hve, hre, hsc, hmo, hh, hbd, hmv, hVu, hpv, htl1, htt, hsh, hm, hmu, hmP, hm10, hm7⟩ := id hI
  have hp : sv_sep 0 1 92 93 66 67 68 91 (sv_fd 69) := sv_sep0 0
  refine sv_aload_n (i := 1) dL_law_668 rfl rfl ?_
  refine sv_vl0 (As := []) clL_98 dL_law_669 ⟨_, rfl, rfl⟩ (by decide) rfl (Nat.le_of_ble_eq_true rfl) (by decide) (by decide) hve.lt hve.k (c_X4_digest hve hmo hmv hre hw hsc hp hg (by rw [htl1]; exact htl)) (P := fun f' _ => sv_un 91 92 93 (sv_fd 69) f f') (fun rv' S' f' r' g' h => ⟨h.1, h.2.1, h.2.2.1, h.2.2.2.2⟩) (fun f1 g1 hun => ?_)
  have hI := hI.un hun
  obtain ⟨-, -, -, -, -, -, -, -, -, -, -, -, hsh, hm9, hmu9, hmP9, hm109, hm79⟩ := id hI
  refine sv_aload_n (i := 2) dL_law_672 rfl rfl ?_
  refine sv_vl0 (As := []) clL_102 dL_law_673 ⟨_, rfl, rfl⟩ (by decide) rfl (Nat.le_of_ble_eq_true rfl) (by decide) (by decide) hsh.lt hsh.k (c_X5_digest hsh hm9 hw hg (by rw [hm109]; exact htl)) (P := fun f' _ => sp_sq 478 f1 f') (fun rv' S' f' r' g' h => ⟨h.1, h.2.1, h.2.2.1, h.2.2.2.1⟩) (fun f2 g2 hsq => ?_)
  have hI := hI.sq hsq
  refine sv_lcmp dL_law_676 (by rw [hVu, htl1, htt, hmu9, hm109, hm79]) ?_
  exact sv_if_eq (tgt := 682) dL_law_677 (by decide) (by decide) (fun _ => hk _ _ _ ⟨_, _, _, _, _, _, _, _, hI⟩) (fun h => absurd rfl h)
