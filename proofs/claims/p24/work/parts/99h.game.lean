/-! the law's methods over the vault -/
def sv_LI (S : sv_S) (r : sv_R) (f : sv_F) : Prop := ∃ m, sv_J S r f m ∧ sv_JS S f ∧ lw_g (f 478) m ∧ lw_q (f 479) m
section SVROWS3
variable {X : sv_X} {R : Room} {M : sv_M} {Z : sv_Z} {kc ks : Nat} {pc : Nat} {ls : sv_L} {st : List sv_V} {S : sv_S} {f : sv_F} {r : sv_R} {g : sv_G} {m m' : Int → Int}
theorem sv_sk0 {M' : sv_M} {idx d n : Nat} {As : List sv_V} {P : Int → sv_F → sv_R → Prop} (hl : sv_cS M.1.cls idx M' n) (hd : decode M.2.1 pc = .ok (.invokestatic idx, 3)) (hn : As.length = n) (hst : 2 * st.length ≤ 8) (hR : d + 1 ≤ R.frames ∧ 8 + (M'.2.2.1 + 11) + 36 * d ≤ R.locals) (hc : kc ≤ R.cells ∧ ks ≤ R.slots)
    (hM : sv_C X d M' 0 0 As S f r g (sv_qk P S g)) (kk : ∀ a f' r', P a f' r' → sv_T X R M Z kc ks (pc + 3) ls (sv_i a :: st) S f' r' g) : sv_T X R M Z kc ks pc ls (As.reverse ++ st) S f r g := by
  refine sv_callS hl hM hR hc hn hst hd fun rv S' f' r' g' ⟨a, h1, h2, h3, h4⟩ => ?_
  subst h1; subst h2; subst h3
  exact kk _ _ _ h4
theorem lw_q.tab {q : Int → Int} (h : lw_q q m) (hm : ∀ j, 0 ≤ j → j < 582 → m' j = m j) : lw_q q m' := by
  obtain ⟨h1, h2, h3⟩ := h
  have e0 := hm 580 (by decide) (by decide)
  refine ⟨by rw [e0, hm 581 (by decide) (by decide)]; exact h1, fun s s0 s1 => ?_, fun s s0 s1 => h3 s (by omega) s1⟩
  rw [e0] at s1
  obtain ⟨a, ⟨b1, b2, b3, b4⟩, c, d, e, g⟩ := h2 s s0 s1
  have hc := lw_c_in (q (8 * s + 3)) 12
  have hcp := fun p : Int => lw_c_in (q (8 * s + 3)) p.toNat
  refine ⟨by rw [hm _ (by omega) (by omega)]; exact a, ⟨by rw [hm _ (by omega) (by omega)]; exact b1, by rw [hm _ (by omega) (by omega)]; exact b2, by rw [hm _ (by omega) (by omega)]; exact b3, by rw [hm _ (by omega) (by omega)]; exact b4⟩, c, by rw [hm _ (by omega) (by omega)]; exact d, fun p p0 p1 hp => ?_, g⟩
  have := hcp p
  rw [hm _ (by omega) (by omega), hm _ (by omega) (by omega)]
  exact e p p0 p1 hp
theorem lw_g.ok {v : Int → Int} (h : lw_g v m) (hg : sp_wg m) : sp_ok v (6 + 2 * v 12) := by
  intro j j0 j1
  rw [h.2.1] at j1
  rw [h.1 j j0 j1]
  exact hg.v j j0 j1
/-- the game a form up -/
def lw_mr (m : Int → Int) : Int → Int := fun j => if j = 582 then m 582 + 1 else if 583 ≤ j ∧ j < 595 then sp_rz (sp_gv m) (m 582) (m 582 + 1) (j - 583) else m j
theorem lw_mr_raise (h : m 582 ≤ 2) : sp_raise m (lw_mr m) := by
  refine ⟨fun j _ j1 => ?_, rfl, rfl, rfl, rfl, fun j j0 j1 => ?_⟩
  · unfold lw_mr; rw [if_neg (by omega), if_neg (by omega)]
  · unfold lw_mr
    rw [if_neg (by omega), if_pos (by omega), show 583 + j - 583 = j by omega]
theorem lw_up_to {v : Int → Int} (h : 1 ≤ v 12 ∧ v 12 ≤ 2) : lw_up v = lw_to v (v 12 + 1) := by
  have e12 : lw_up v 12 = v 12 + 1 := if_pos rfl
  rw [← lw_to_up h.1 (by omega) (by omega), lw_to_id (by omega)]
end SVROWS3
theorem sv_JT.eq {S : sv_S} {r : sv_R} {f : sv_F} {m : Int → Int} {l l' : List Int} (h : sv_JT S r f m l) (e : l = l') : sv_JT S r f m l' := e ▸ h
set_option maxRecDepth 100000 in
set_option maxHeartbeats 4000000 in
theorem c_L_isGame {X : sv_X} {S : sv_S} {f : sv_F} {r : sv_R} {g : sv_G} {m : Int → Int} (hJ : sv_J S r f m) (hS : sv_JS S f) (hg : lw_g (f 478) m) (hq : lw_q (f 479) m)  : sv_C X 6 ML_isGame 0 0 [sv_r 0, sv_r 478] S f r g (sv_qi (fun a f' => a = 1 ∧ sv_LI S r f') S r g) := by
  refine sv_met (by decide) (by simp [lg_sl, sv_cv, va_rf, Value.category]) ?_
  obtain ⟨hw, hwg⟩ := hJ.w
  have hgf := hwg.f
  obtain ⟨g0, g12, g13, g14, g15, g16⟩ := id hg
  have hx : ∀ x, 478 ≤ x → f x = f x := fun _ _ => rfl
  have hmany : 6 + 2 * f 478 12 = 6 + 2 * m 582 := by rw [g12]
  have h32 : ∀ i : Int, sv_T X (sv_rm 6 0 0) ML_isGame (sv_Zm X 0 0 (sv_qi (fun a f' => a = 1 ∧ sv_LI S r f') S r g)) 0 0 32 [some (sv_r 0), some (sv_r 478), some (sv_i i)] [] S (f) r g := by
    intro i
    refine sv_aload_n (i := 0) dL_isGame_32 rfl rfl ?_
    refine sv_aload_n (i := 1) dL_isGame_33 rfl rfl ?_
    refine sv_bipush dL_isGame_34 (by decide) ?_
    refine sv_iald dL_isGame_36 (by have := hS.1; omega) hS.2.1 (by decide) ?_
    refine sv_sp0 (As := [_]) clL_11 dL_isGame_37 rfl (Nat.le_of_ble_eq_true rfl) (by decide) (by decide) (c_L_many (F := f 478 12) (by omega)) ?_
    refine sv_vp0 (As := [_]) clL_95 dL_isGame_40 ⟨_, rfl, rfl⟩ (by decide) rfl (Nat.le_of_ble_eq_true rfl) (by decide) (by decide) hJ.k.1 hJ.k.2 (J_value hJ _ (by unfold sv_in; omega)) ?_
    refine sv_iconst dL_isGame_43 ?_
    refine sv_icmp_neT (tgt := 136) dL_isGame_44 (by decide) (by rw [if_neg (by omega), if_neg (by omega)]) ?_
    refine sv_aload_n (i := 0) dL_isGame_47 rfl rfl ?_
    refine sv_iconst dL_isGame_48 ?_
    refine sv_vp0 (As := [_]) clL_95 dL_isGame_49 ⟨_, rfl, rfl⟩ (by decide) rfl (Nat.le_of_ble_eq_true rfl) (by decide) (by decide) hJ.k.1 hJ.k.2 (J_value hJ _ (by decide)) ?_
    refine sv_bipush dL_isGame_52 (by decide) ?_
    refine sv_icmp_neT (tgt := 136) dL_isGame_54 (by decide) (by rw [if_pos (by decide)]) ?_
    refine sv_aload_n (i := 0) dL_isGame_57 rfl rfl ?_
    refine sv_iconst dL_isGame_58 ?_
    refine sv_vi0 (As := [_]) clL_98 dL_isGame_59 ⟨_, rfl, rfl⟩ (by decide) rfl (Nat.le_of_ble_eq_true rfl) (by decide) (by decide) hJ.k.1 hJ.k.2 (J_count hJ 0 (by decide) (by decide)) (fun a1 f1 hf1 => ?_)
    obtain ⟨ha1, hJ, hx1⟩ := hf1
    have hx : ∀ x, 478 ≤ x → f1 x = f x := fun x h => (hx1 x h).trans (hx x h)
    have hS := hS.hi hx1
    refine sv_aload_n (i := 1) dL_isGame_62 rfl rfl ?_
    refine sv_bipush dL_isGame_63 (by decide) ?_
    refine sv_iald dL_isGame_65 (by have := hS.1; omega) hS.2.1 (by decide) ?_
    refine sv_icmp_neT (tgt := 136) dL_isGame_66 (by decide) (by rw [ha1, hx 478 (by decide), g12]; rfl) ?_
    refine sv_aload_n (i := 0) dL_isGame_69 rfl rfl ?_
    refine sv_iconst dL_isGame_70 ?_
    refine sv_vi0 (As := [_]) clL_98 dL_isGame_71 ⟨_, rfl, rfl⟩ (by decide) rfl (Nat.le_of_ble_eq_true rfl) (by decide) (by decide) hJ.k.1 hJ.k.2 (J_count hJ 1 (by decide) (by decide)) (fun a2 f2 hf2 => ?_)
    obtain ⟨ha2, hJ, hx2⟩ := hf2
    have hx : ∀ x, 478 ≤ x → f2 x = f x := fun x h => (hx2 x h).trans (hx x h)
    have hS := hS.hi hx2
    refine sv_aload_n (i := 1) dL_isGame_74 rfl rfl ?_
    refine sv_bipush dL_isGame_75 (by decide) ?_
    refine sv_iald dL_isGame_77 (by have := hS.1; omega) hS.2.1 (by decide) ?_
    refine sv_icmp_neT (tgt := 136) dL_isGame_78 (by decide) (by rw [ha2, hx 478 (by decide), g13]; rfl) ?_
    refine sv_aload_n (i := 0) dL_isGame_81 rfl rfl ?_
    refine sv_iconst dL_isGame_82 ?_
    refine sv_vi0 (As := [_]) clL_98 dL_isGame_83 ⟨_, rfl, rfl⟩ (by decide) rfl (Nat.le_of_ble_eq_true rfl) (by decide) (by decide) hJ.k.1 hJ.k.2 (J_count hJ 2 (by decide) (by decide)) (fun a3 f3 hf3 => ?_)
    obtain ⟨ha3, hJ, hx3⟩ := hf3
    have hx : ∀ x, 478 ≤ x → f3 x = f x := fun x h => (hx3 x h).trans (hx x h)
    have hS := hS.hi hx3
    refine sv_aload_n (i := 1) dL_isGame_86 rfl rfl ?_
    refine sv_sp0 (As := [_]) clL_30 dL_isGame_87 rfl (Nat.le_of_ble_eq_true rfl) (by decide) (by decide) (c_L_sum (a := 478) ⟨by have := hS.1; omega, hS.2.1⟩ (by decide) (by rw [hx 478 (by decide)]; omega) (by rw [hx 478 (by decide)]; exact hg.ok hwg)) ?_
    refine sv_icmp_neT (tgt := 136) dL_isGame_90 (by decide) (by rw [ha3, hx 478 (by decide), hmany]; exact sp_sm_congr (v := sp_gv m) fun j j0 j1 => (g0 j j0 j1).symm) ?_
    refine sv_aload_n (i := 0) dL_isGame_93 rfl rfl ?_
    refine sv_bipush dL_isGame_94 (by decide) ?_
    refine sv_vi0 (As := [_]) clL_98 dL_isGame_96 ⟨_, rfl, rfl⟩ (by decide) rfl (Nat.le_of_ble_eq_true rfl) (by decide) (by decide) hJ.k.1 hJ.k.2 (J_count hJ 7 (by decide) (by decide)) (fun a4 f4 hf4 => ?_)
    obtain ⟨ha4, hJ, hx4⟩ := hf4
    have hx : ∀ x, 478 ≤ x → f4 x = f x := fun x h => (hx4 x h).trans (hx x h)
    have hS := hS.hi hx4
    refine sv_aload_n (i := 1) dL_isGame_99 rfl rfl ?_
    refine sv_bipush dL_isGame_100 (by decide) ?_
    refine sv_iald dL_isGame_102 (by have := hS.1; omega) hS.2.1 (by decide) ?_
    refine sv_icmp_neT (tgt := 136) dL_isGame_103 (by decide) (by rw [ha4, hx 478 (by decide), g16]; exact hq.1.1) ?_
    refine sv_aload_n (i := 0) dL_isGame_106 rfl rfl ?_
    refine sv_bipush dL_isGame_107 (by decide) ?_
    refine sv_vi0 (As := [_]) clL_98 dL_isGame_109 ⟨_, rfl, rfl⟩ (by decide) rfl (Nat.le_of_ble_eq_true rfl) (by decide) (by decide) hJ.k.1 hJ.k.2 (J_count hJ 11 (by decide) (by decide)) (fun a5 f5 hf5 => ?_)
    obtain ⟨ha5, hJ, hx5⟩ := hf5
    have hx : ∀ x, 478 ≤ x → f5 x = f x := fun x h => (hx5 x h).trans (hx x h)
    have hS := hS.hi hx5
    refine sv_aload_n (i := 1) dL_isGame_112 rfl rfl ?_
    refine sv_bipush dL_isGame_113 (by decide) ?_
    refine sv_iald dL_isGame_115 (by have := hS.1; omega) hS.2.1 (by decide) ?_
    refine sv_icmp_neT (tgt := 136) dL_isGame_116 (by decide) (by rw [ha5, hx 478 (by decide), g14]; rfl) ?_
    refine sv_aload_n (i := 0) dL_isGame_119 rfl rfl ?_
    refine sv_bipush dL_isGame_120 (by decide) ?_
    refine sv_vi0 (As := [_]) clL_98 dL_isGame_122 ⟨_, rfl, rfl⟩ (by decide) rfl (Nat.le_of_ble_eq_true rfl) (by decide) (by decide) hJ.k.1 hJ.k.2 (J_count hJ 12 (by decide) (by decide)) (fun a6 f6 hf6 => ?_)
    obtain ⟨ha6, hJ, hx6⟩ := hf6
    have hx : ∀ x, 478 ≤ x → f6 x = f x := fun x h => (hx6 x h).trans (hx x h)
    have hS := hS.hi hx6
    refine sv_aload_n (i := 1) dL_isGame_125 rfl rfl ?_
    refine sv_bipush dL_isGame_126 (by decide) ?_
    refine sv_iald dL_isGame_128 (by have := hS.1; omega) hS.2.1 (by decide) ?_
    refine sv_icmp_neT (tgt := 136) dL_isGame_129 (by decide) (by rw [ha6, hx 478 (by decide), g15]; rfl) ?_
    refine sv_iconst dL_isGame_132 ?_
    refine sv_goto (tgt := 137) dL_isGame_133 (by decide) ?_
    refine sv_zreturn dL_isGame_137 rfl (by decide) ?_
    exact ⟨_, rfl, rfl, rfl, rfl, rfl, m, hJ, hS, by rw [hx 478 (by decide)]; exact hg, by rw [hx 479 (by decide)]; exact hq⟩
  have lp : ∀ (kk : Nat) (i : Int), 6 + 2 * m 582 - i < (kk : Int) → (0 ≤ i ∧ i ≤ 6 + 2 * m 582) → sv_T X (sv_rm 6 0 0) ML_isGame (sv_Zm X 0 0 (sv_qi (fun a f' => a = 1 ∧ sv_LI S r f') S r g)) 0 0 2 [some (sv_r 0), some (sv_r 478), some (sv_i i)] [] S (f) r g := by
    intro kk
    induction kk with
    | zero =>
      intro i hkk i0
      exact absurd hkk (by omega)
    | succ kk ih =>
      intro i hkk i0
      refine sv_iload_n (i := 2) dL_isGame_2 rfl rfl ?_
      refine sv_aload_n (i := 1) dL_isGame_3 rfl rfl ?_
      refine sv_bipush dL_isGame_4 (by decide) ?_
      refine sv_iald dL_isGame_6 (by have := hS.1; omega) hS.2.1 (by decide) ?_
      refine sv_sp0 (As := [_]) clL_11 dL_isGame_7 rfl (Nat.le_of_ble_eq_true rfl) (by decide) (by decide) (c_L_many (F := f 478 12) (by omega)) ?_
      refine sv_icmp_ge (tgt := 32) dL_isGame_10 (by decide) (by unfold sv_in; omega) (by unfold sv_in; omega) (fun h_10 => ?_) (fun h_10 => ?_)
      · exact h32 _
      · refine sv_aload_n (i := 0) dL_isGame_13 rfl rfl ?_
        refine sv_iload_n (i := 2) dL_isGame_14 rfl rfl ?_
        refine sv_vp0 (As := [_]) clL_95 dL_isGame_15 ⟨_, rfl, rfl⟩ (by decide) rfl (Nat.le_of_ble_eq_true rfl) (by decide) (by decide) hJ.k.1 hJ.k.2 (J_value hJ i (by unfold sv_in; omega)) ?_
        refine sv_aload_n (i := 1) dL_isGame_18 rfl rfl ?_
        refine sv_iload_n (i := 2) dL_isGame_19 rfl rfl ?_
        refine sv_iald dL_isGame_20 (by have := hS.1; omega) hS.2.1 (by omega) ?_
        refine sv_icmp_eqT (tgt := 26) dL_isGame_21 (by decide) (by rw [if_neg (by omega), if_pos (by omega), g0 i (by omega) (by omega)]) ?_
        refine sv_iinc dL_isGame_26 rfl (by decide) rfl ?_
        refine sv_goto (tgt := 2) dL_isGame_29 (by decide) ?_
        refine sv_cast (ih (i + 1) (by omega) (by omega)) rfl rfl rfl rfl rfl rfl
  refine sv_iconst dL_isGame_0 ?_
  refine sv_istore_n (i := 2) dL_isGame_1 rfl (by decide) rfl ?_
  exact lp (6 + 2 * m 582 + 1).toNat 0 (by omega) (by omega)
theorem lw_rz_hi {v : Int → Int} {a b j : Int} (h : 12 ≤ j) : sp_rz v a b j = v j := by
  unfold sp_rz sp_r1 sp_r2
  by_cases h1 : a ≤ 1 ∧ 2 ≤ b
  · by_cases h2 : a ≤ 2 ∧ 3 ≤ b
    · simp only [if_pos h1, if_pos h2]; rw [if_neg (by omega), if_neg (by omega), if_neg (by omega), if_neg (by omega), if_neg (by omega), if_neg (by omega)]
    · simp only [if_pos h1, if_neg h2]; rw [if_neg (by omega), if_neg (by omega)]
  · by_cases h2 : a ≤ 2 ∧ 3 ≤ b
    · simp only [if_neg h1, if_pos h2]; rw [if_neg (by omega), if_neg (by omega), if_neg (by omega), if_neg (by omega)]
    · simp only [if_neg h1, if_neg h2]
set_option maxRecDepth 100000 in
set_option maxHeartbeats 4000000 in
theorem c_L_raisesGame {X : sv_X} {S : sv_S} {f : sv_F} {r : sv_R} {g : sv_G} {m : Int → Int} (hJ : sv_J S r f m) (hS : sv_JS S f) (hg : lw_g (f 478) m) (hq : lw_q (f 479) m)  : sv_C X 5 ML_raisesGame 0 0 [sv_r 0, sv_r 478] S f r g (sv_qk (fun a f' r' => a = 1 ∧ sv_LI S r' f') S g) := by
  refine sv_met (by decide) (by simp [lg_sl, sv_cv, va_rf, Value.category]) ?_
  obtain ⟨hw, hwg⟩ := hJ.w
  have hgf := hwg.f
  obtain ⟨g0, g12, g13, g14, g15, g16⟩ := id hg
  refine sv_aload_n (i := 1) dL_raisesGame_0 rfl rfl ?_
  refine sv_bipush dL_raisesGame_1 (by decide) ?_
  refine sv_iald dL_raisesGame_3 (by have := hS.1; omega) hS.2.1 (by decide) ?_
  refine sv_iconst dL_raisesGame_4 ?_
  refine sv_icmp_ne (tgt := 23) dL_raisesGame_5 (by decide) (by unfold sv_in; omega) (by decide) (fun h_5 => ?_) (fun h_5 => ?_)
  · refine sv_aload_n (i := 1) dL_raisesGame_23 rfl rfl ?_
    refine sv_sv0 (As := [_]) clL_23 dL_raisesGame_24 rfl (Nat.le_of_ble_eq_true rfl) (by decide) (by decide) (c_L_raises (a := 478) ⟨by have := hS.1; omega, hS.2.1⟩ (by decide) (by omega) (hg.ok hwg)) (fun f1 hf1 => ?_)
    subst hf1
    have hJ := hJ.hi (f' := sv_row f 478 (lw_up (f 478))) (fun x hx => sv_row_ne (by omega))
    have hS1 := hS.cg (f' := sv_row f 478 (lw_up (f 478))) (fun x hx => sv_row_ne (by have := hS.1; omega))
    have hS := hS1
    refine sv_aload_n (i := 0) dL_raisesGame_27 rfl rfl ?_
    refine sv_vk0 (As := []) clL_92 dL_raisesGame_28 ⟨_, rfl, rfl⟩ (by decide) rfl (Nat.le_of_ble_eq_true rfl) (by decide) (by decide) hJ.k.1 hJ.k.2 (J_raise hJ) (fun a1 f1 r1 hf1 => ?_)
    obtain ⟨hx1, hc1⟩ := hf1
    have hc2 : a1 = m 582 + 1 ∧ sv_J S r1 f1 (lw_mr m) := by
      rcases hc1 with ⟨e1, -⟩ | ⟨-, e2, e3⟩
      · exact absurd (by omega) h_5
      · exact ⟨e2, e3 _ (lw_mr_raise (by omega))⟩
    obtain ⟨ha1, hJ1⟩ := hc2
    have e478 : f1 478 = lw_up (f 478) := by rw [hx1 478 (by decide), sv_row_eq]
    have e479 : f1 479 = f 479 := by rw [hx1 479 (by decide), sv_row_ne (by decide)]
    have hS := hS.hi hx1
    refine sv_aload_n (i := 1) dL_raisesGame_31 rfl rfl ?_
    refine sv_bipush dL_raisesGame_32 (by decide) ?_
    refine sv_iald dL_raisesGame_34 (by have := hS.1; omega) hS.2.1 (by decide) ?_
    refine sv_icmp_neT (tgt := 42) dL_raisesGame_35 (by decide) (by rw [ha1, e478, ← g12]; rfl) ?_
    refine sv_iconst dL_raisesGame_38 ?_
    refine sv_goto (tgt := 43) dL_raisesGame_39 (by decide) ?_
    refine sv_zreturn dL_raisesGame_43 rfl (by decide) ?_
    refine ⟨_, rfl, rfl, rfl, rfl, lw_mr m, hJ1, hS, ?_, by rw [e479]; exact hq.tab fun j _ j1 => by unfold lw_mr; rw [if_neg (by omega), if_neg (by omega)]⟩
    rw [e478, lw_up_to (by omega), g12]
    refine ⟨fun j j0 j1 => ?_, ?_, ?_, ?_, ?_, ?_⟩
    · have e582 : lw_mr m 582 = m 582 + 1 := rfl
      rw [e582] at j1
      unfold lw_to lw_mr
      rw [if_neg (by omega), if_neg (by omega), if_pos (by omega), show 583 + j - 583 = j by omega, g12]
      exact sp_rz_congr hgf.1 (by omega) (by omega) g0 j j0 j1
    · show max (f 478 12) (m 582 + 1) = m 582 + 1; omega
    all_goals (unfold lw_to; rw [if_neg (by decide)]; show sp_rz _ _ _ _ = m _; rw [lw_rz_hi (by decide)]; assumption)
  · refine sv_aload_n (i := 0) dL_raisesGame_8 rfl rfl ?_
    refine sv_vk0 (As := []) clL_92 dL_raisesGame_9 ⟨_, rfl, rfl⟩ (by decide) rfl (Nat.le_of_ble_eq_true rfl) (by decide) (by decide) hJ.k.1 hJ.k.2 (J_raise hJ) (fun a1 f1 r1 hf1 => ?_)
    obtain ⟨hx1, hc1⟩ := hf1
    have hc2 : a1 = -3 ∧ sv_J S r1 f1 m := by
      rcases hc1 with ⟨-, e2, e3⟩ | ⟨e1, -⟩
      · exact ⟨e2, e3⟩
      · exact absurd (by omega) e1
    obtain ⟨ha1, hJ1⟩ := hc2
    refine sv_bipush dL_raisesGame_12 (by decide) ?_
    refine sv_icmp_neT (tgt := 21) dL_raisesGame_14 (by decide) ha1 ?_
    refine sv_iconst dL_raisesGame_17 ?_
    refine sv_goto (tgt := 22) dL_raisesGame_18 (by decide) ?_
    refine sv_zreturn dL_raisesGame_22 rfl (by decide) ?_
    exact ⟨_, rfl, rfl, rfl, rfl, m, hJ1, hS.hi hx1, by rw [hx1 478 (by decide)]; exact hg, by rw [hx1 479 (by decide)]; exact hq⟩
set_option maxRecDepth 100000 in
set_option maxHeartbeats 4000000 in
theorem c_L_typesNumber {X : sv_X} {S : sv_S} {f : sv_F} {r : sv_R} {g : sv_G} {m : Int → Int} {l : List Int} (hT : sv_JT S r f m l) (hl : (l.length : Int) + 3 ≤ 80) {v : Int} (hv : -99 ≤ v ∧ v ≤ 99) : sv_C X 1 ML_typesNumber 0 0 [sv_r 0, sv_i v] S f r g (sv_qi (fun a f' => a = 1 ∧ sv_JT S r f' m (l ++ tx_nm v) ∧ ∀ x, 478 ≤ x → f' x = f x) S r g) := by
  refine sv_met (by decide) (by simp [lg_sl, sv_cv, va_rf, Value.category]) ?_
  have hx : ∀ x, 478 ≤ x → f x = f x := fun _ _ => rfl
  refine sv_iload_n (i := 1) dL_typesNumber_0 rfl rfl ?_
  refine sv_if_ge (tgt := 9) dL_typesNumber_1 (by decide) (by unfold sv_in; omega) (fun h_1 => ?_) (fun h_1 => ?_)
  · refine sv_iload_n (i := 1) dL_typesNumber_9 rfl rfl ?_
    refine sv_istore_n (i := 2) dL_typesNumber_10 rfl (by decide) rfl ?_
    refine sv_iload_n (i := 1) dL_typesNumber_11 rfl rfl ?_
    refine sv_if_ge (tgt := 24) dL_typesNumber_12 (by decide) (by unfold sv_in; omega) (fun h_12 => ?_) (fun h_12 => ?_)
    · refine sv_iload_n (i := 2) dL_typesNumber_24 rfl rfl ?_
      refine sv_bipush dL_typesNumber_25 (by decide) ?_
      refine sv_icmp_lt (tgt := 44) dL_typesNumber_27 (by decide) (by unfold sv_in; omega) (by decide) (fun h_27 => ?_) (fun h_27 => ?_)
      · refine sv_aload_n (i := 0) dL_typesNumber_44 rfl rfl ?_
        refine sv_bipush dL_typesNumber_45 (by decide) ?_
        refine sv_iload_n (i := 2) dL_typesNumber_47 rfl rfl ?_
        refine sv_bipush dL_typesNumber_48 (by decide) ?_
        refine sv_irem dL_typesNumber_50 (by omega) (by decide) ?_
        refine sv_iadd dL_typesNumber_51 ?_
        refine sv_vi0 (As := [_]) clL_55 dL_typesNumber_52 ⟨_, rfl, rfl⟩ (by decide) rfl (Nat.le_of_ble_eq_true rfl) (by decide) (by decide) hT.j.k.1 hT.j.k.2 (J_type hT _ (by omega) (by first | omega | (simp only [List.length_append, List.length_cons, List.length_nil]; push_cast; omega))) (fun a3 f3 hf3 => ?_)
        obtain ⟨ha3, hT, hx3⟩ := hf3
        have hx : ∀ x, 478 ≤ x → f3 x = f x := fun x h => (hx3 x h).trans (hx x h)
        have hp3 : 0 < a3 ∧ a3 ≤ 82 := by first | omega | (simp only [List.length_append, List.length_cons, List.length_nil] at ha3; push_cast at ha3; omega)
        refine sv_if_le (tgt := 62) dL_typesNumber_55 (by decide) (by unfold sv_in; omega) (fun h_55 => absurd h_55 (by omega)) (fun h_55 => ?_)
        refine sv_iconst dL_typesNumber_58 ?_
        refine sv_goto (tgt := 63) dL_typesNumber_59 (by decide) ?_
        refine sv_zreturn dL_typesNumber_63 rfl (by decide) ?_
        first
        | (exfalso; omega)
        | exact ⟨_, rfl, rfl, rfl, rfl, rfl, hT.eq (by unfold tx_nm tx_dg; repeat' split <;> first | (exfalso; omega) | (simp; done) | (simp; omega)), hx⟩
      · refine sv_aload_n (i := 0) dL_typesNumber_30 rfl rfl ?_
        refine sv_bipush dL_typesNumber_31 (by decide) ?_
        refine sv_iload_n (i := 2) dL_typesNumber_33 rfl rfl ?_
        refine sv_bipush dL_typesNumber_34 (by decide) ?_
        refine sv_idiv dL_typesNumber_36 (by omega) (by decide) ?_
        refine sv_iadd dL_typesNumber_37 ?_
        refine sv_vi0 (As := [_]) clL_55 dL_typesNumber_38 ⟨_, rfl, rfl⟩ (by decide) rfl (Nat.le_of_ble_eq_true rfl) (by decide) (by decide) hT.j.k.1 hT.j.k.2 (J_type hT _ (by omega) (by first | omega | (simp only [List.length_append, List.length_cons, List.length_nil]; push_cast; omega))) (fun a2 f2 hf2 => ?_)
        obtain ⟨ha2, hT, hx2⟩ := hf2
        have hx : ∀ x, 478 ≤ x → f2 x = f x := fun x h => (hx2 x h).trans (hx x h)
        have hp2 : 0 < a2 ∧ a2 ≤ 82 := by first | omega | (simp only [List.length_append, List.length_cons, List.length_nil] at ha2; push_cast at ha2; omega)
        refine sv_if_le (tgt := 62) dL_typesNumber_41 (by decide) (by unfold sv_in; omega) (fun h_41 => absurd h_41 (by omega)) (fun h_41 => ?_)
        refine sv_aload_n (i := 0) dL_typesNumber_44 rfl rfl ?_
        refine sv_bipush dL_typesNumber_45 (by decide) ?_
        refine sv_iload_n (i := 2) dL_typesNumber_47 rfl rfl ?_
        refine sv_bipush dL_typesNumber_48 (by decide) ?_
        refine sv_irem dL_typesNumber_50 (by omega) (by decide) ?_
        refine sv_iadd dL_typesNumber_51 ?_
        refine sv_vi0 (As := [_]) clL_55 dL_typesNumber_52 ⟨_, rfl, rfl⟩ (by decide) rfl (Nat.le_of_ble_eq_true rfl) (by decide) (by decide) hT.j.k.1 hT.j.k.2 (J_type hT _ (by omega) (by first | omega | (simp only [List.length_append, List.length_cons, List.length_nil]; push_cast; omega))) (fun a3 f3 hf3 => ?_)
        obtain ⟨ha3, hT, hx3⟩ := hf3
        have hx : ∀ x, 478 ≤ x → f3 x = f x := fun x h => (hx3 x h).trans (hx x h)
        have hp3 : 0 < a3 ∧ a3 ≤ 82 := by first | omega | (simp only [List.length_append, List.length_cons, List.length_nil] at ha3; push_cast at ha3; omega)
        refine sv_if_le (tgt := 62) dL_typesNumber_55 (by decide) (by unfold sv_in; omega) (fun h_55 => absurd h_55 (by omega)) (fun h_55 => ?_)
        refine sv_iconst dL_typesNumber_58 ?_
        refine sv_goto (tgt := 63) dL_typesNumber_59 (by decide) ?_
        refine sv_zreturn dL_typesNumber_63 rfl (by decide) ?_
        first
        | (exfalso; omega)
        | exact ⟨_, rfl, rfl, rfl, rfl, rfl, hT.eq (by unfold tx_nm tx_dg; repeat' split <;> first | (exfalso; omega) | (simp; done) | (simp; omega)), hx⟩
    · refine sv_aload_n (i := 0) dL_typesNumber_15 rfl rfl ?_
      refine sv_bipush dL_typesNumber_16 (by decide) ?_
      refine sv_vi0 (As := [_]) clL_55 dL_typesNumber_18 ⟨_, rfl, rfl⟩ (by decide) rfl (Nat.le_of_ble_eq_true rfl) (by decide) (by decide) hT.j.k.1 hT.j.k.2 (J_type hT _ (by omega) (by first | omega | (simp only [List.length_append, List.length_cons, List.length_nil]; push_cast; omega))) (fun a1 f1 hf1 => ?_)
      obtain ⟨ha1, hT, hx1⟩ := hf1
      have hx : ∀ x, 478 ≤ x → f1 x = f x := fun x h => (hx1 x h).trans (hx x h)
      have hp1 : 0 < a1 ∧ a1 ≤ 82 := by first | omega | (simp only [List.length_append, List.length_cons, List.length_nil] at ha1; push_cast at ha1; omega)
      refine sv_if_le (tgt := 62) dL_typesNumber_21 (by decide) (by unfold sv_in; omega) (fun h_21 => absurd h_21 (by omega)) (fun h_21 => ?_)
      refine sv_iload_n (i := 2) dL_typesNumber_24 rfl rfl ?_
      refine sv_bipush dL_typesNumber_25 (by decide) ?_
      refine sv_icmp_lt (tgt := 44) dL_typesNumber_27 (by decide) (by unfold sv_in; omega) (by decide) (fun h_27 => ?_) (fun h_27 => ?_)
      · refine sv_aload_n (i := 0) dL_typesNumber_44 rfl rfl ?_
        refine sv_bipush dL_typesNumber_45 (by decide) ?_
        refine sv_iload_n (i := 2) dL_typesNumber_47 rfl rfl ?_
        refine sv_bipush dL_typesNumber_48 (by decide) ?_
        refine sv_irem dL_typesNumber_50 (by omega) (by decide) ?_
        refine sv_iadd dL_typesNumber_51 ?_
        refine sv_vi0 (As := [_]) clL_55 dL_typesNumber_52 ⟨_, rfl, rfl⟩ (by decide) rfl (Nat.le_of_ble_eq_true rfl) (by decide) (by decide) hT.j.k.1 hT.j.k.2 (J_type hT _ (by omega) (by first | omega | (simp only [List.length_append, List.length_cons, List.length_nil]; push_cast; omega))) (fun a3 f3 hf3 => ?_)
        obtain ⟨ha3, hT, hx3⟩ := hf3
        have hx : ∀ x, 478 ≤ x → f3 x = f x := fun x h => (hx3 x h).trans (hx x h)
        have hp3 : 0 < a3 ∧ a3 ≤ 82 := by first | omega | (simp only [List.length_append, List.length_cons, List.length_nil] at ha3; push_cast at ha3; omega)
        refine sv_if_le (tgt := 62) dL_typesNumber_55 (by decide) (by unfold sv_in; omega) (fun h_55 => absurd h_55 (by omega)) (fun h_55 => ?_)
        refine sv_iconst dL_typesNumber_58 ?_
        refine sv_goto (tgt := 63) dL_typesNumber_59 (by decide) ?_
        refine sv_zreturn dL_typesNumber_63 rfl (by decide) ?_
        first
        | (exfalso; omega)
        | exact ⟨_, rfl, rfl, rfl, rfl, rfl, hT.eq (by unfold tx_nm tx_dg; repeat' split <;> first | (exfalso; omega) | (simp; done) | (simp; omega)), hx⟩
      · refine sv_aload_n (i := 0) dL_typesNumber_30 rfl rfl ?_
        refine sv_bipush dL_typesNumber_31 (by decide) ?_
        refine sv_iload_n (i := 2) dL_typesNumber_33 rfl rfl ?_
        refine sv_bipush dL_typesNumber_34 (by decide) ?_
        refine sv_idiv dL_typesNumber_36 (by omega) (by decide) ?_
        refine sv_iadd dL_typesNumber_37 ?_
        refine sv_vi0 (As := [_]) clL_55 dL_typesNumber_38 ⟨_, rfl, rfl⟩ (by decide) rfl (Nat.le_of_ble_eq_true rfl) (by decide) (by decide) hT.j.k.1 hT.j.k.2 (J_type hT _ (by omega) (by first | omega | (simp only [List.length_append, List.length_cons, List.length_nil]; push_cast; omega))) (fun a2 f2 hf2 => ?_)
        obtain ⟨ha2, hT, hx2⟩ := hf2
        have hx : ∀ x, 478 ≤ x → f2 x = f x := fun x h => (hx2 x h).trans (hx x h)
        have hp2 : 0 < a2 ∧ a2 ≤ 82 := by first | omega | (simp only [List.length_append, List.length_cons, List.length_nil] at ha2; push_cast at ha2; omega)
        refine sv_if_le (tgt := 62) dL_typesNumber_41 (by decide) (by unfold sv_in; omega) (fun h_41 => absurd h_41 (by omega)) (fun h_41 => ?_)
        refine sv_aload_n (i := 0) dL_typesNumber_44 rfl rfl ?_
        refine sv_bipush dL_typesNumber_45 (by decide) ?_
        refine sv_iload_n (i := 2) dL_typesNumber_47 rfl rfl ?_
        refine sv_bipush dL_typesNumber_48 (by decide) ?_
        refine sv_irem dL_typesNumber_50 (by omega) (by decide) ?_
        refine sv_iadd dL_typesNumber_51 ?_
        refine sv_vi0 (As := [_]) clL_55 dL_typesNumber_52 ⟨_, rfl, rfl⟩ (by decide) rfl (Nat.le_of_ble_eq_true rfl) (by decide) (by decide) hT.j.k.1 hT.j.k.2 (J_type hT _ (by omega) (by first | omega | (simp only [List.length_append, List.length_cons, List.length_nil]; push_cast; omega))) (fun a3 f3 hf3 => ?_)
        obtain ⟨ha3, hT, hx3⟩ := hf3
        have hx : ∀ x, 478 ≤ x → f3 x = f x := fun x h => (hx3 x h).trans (hx x h)
        have hp3 : 0 < a3 ∧ a3 ≤ 82 := by first | omega | (simp only [List.length_append, List.length_cons, List.length_nil] at ha3; push_cast at ha3; omega)
        refine sv_if_le (tgt := 62) dL_typesNumber_55 (by decide) (by unfold sv_in; omega) (fun h_55 => absurd h_55 (by omega)) (fun h_55 => ?_)
        refine sv_iconst dL_typesNumber_58 ?_
        refine sv_goto (tgt := 63) dL_typesNumber_59 (by decide) ?_
        refine sv_zreturn dL_typesNumber_63 rfl (by decide) ?_
        first
        | (exfalso; omega)
        | exact ⟨_, rfl, rfl, rfl, rfl, rfl, hT.eq (by unfold tx_nm tx_dg; repeat' split <;> first | (exfalso; omega) | (simp; done) | (simp; omega)), hx⟩
  · refine sv_iload_n (i := 1) dL_typesNumber_4 rfl rfl ?_
    refine sv_ineg dL_typesNumber_5 ?_
    refine sv_goto (tgt := 10) dL_typesNumber_6 (by decide) ?_
    refine sv_istore_n (i := 2) dL_typesNumber_10 rfl (by decide) rfl ?_
    refine sv_iload_n (i := 1) dL_typesNumber_11 rfl rfl ?_
    refine sv_if_ge (tgt := 24) dL_typesNumber_12 (by decide) (by unfold sv_in; omega) (fun h_12 => ?_) (fun h_12 => ?_)
    · refine sv_iload_n (i := 2) dL_typesNumber_24 rfl rfl ?_
      refine sv_bipush dL_typesNumber_25 (by decide) ?_
      refine sv_icmp_lt (tgt := 44) dL_typesNumber_27 (by decide) (by unfold sv_in; omega) (by decide) (fun h_27 => ?_) (fun h_27 => ?_)
      · refine sv_aload_n (i := 0) dL_typesNumber_44 rfl rfl ?_
        refine sv_bipush dL_typesNumber_45 (by decide) ?_
        refine sv_iload_n (i := 2) dL_typesNumber_47 rfl rfl ?_
        refine sv_bipush dL_typesNumber_48 (by decide) ?_
        refine sv_irem dL_typesNumber_50 (by omega) (by decide) ?_
        refine sv_iadd dL_typesNumber_51 ?_
        refine sv_vi0 (As := [_]) clL_55 dL_typesNumber_52 ⟨_, rfl, rfl⟩ (by decide) rfl (Nat.le_of_ble_eq_true rfl) (by decide) (by decide) hT.j.k.1 hT.j.k.2 (J_type hT _ (by omega) (by first | omega | (simp only [List.length_append, List.length_cons, List.length_nil]; push_cast; omega))) (fun a3 f3 hf3 => ?_)
        obtain ⟨ha3, hT, hx3⟩ := hf3
        have hx : ∀ x, 478 ≤ x → f3 x = f x := fun x h => (hx3 x h).trans (hx x h)
        have hp3 : 0 < a3 ∧ a3 ≤ 82 := by first | omega | (simp only [List.length_append, List.length_cons, List.length_nil] at ha3; push_cast at ha3; omega)
        refine sv_if_le (tgt := 62) dL_typesNumber_55 (by decide) (by unfold sv_in; omega) (fun h_55 => absurd h_55 (by omega)) (fun h_55 => ?_)
        refine sv_iconst dL_typesNumber_58 ?_
        refine sv_goto (tgt := 63) dL_typesNumber_59 (by decide) ?_
        refine sv_zreturn dL_typesNumber_63 rfl (by decide) ?_
        first
        | (exfalso; omega)
        | exact ⟨_, rfl, rfl, rfl, rfl, rfl, hT.eq (by unfold tx_nm tx_dg; repeat' split <;> first | (exfalso; omega) | (simp; done) | (simp; omega)), hx⟩
      · refine sv_aload_n (i := 0) dL_typesNumber_30 rfl rfl ?_
        refine sv_bipush dL_typesNumber_31 (by decide) ?_
        refine sv_iload_n (i := 2) dL_typesNumber_33 rfl rfl ?_
        refine sv_bipush dL_typesNumber_34 (by decide) ?_
        refine sv_idiv dL_typesNumber_36 (by omega) (by decide) ?_
        refine sv_iadd dL_typesNumber_37 ?_
        refine sv_vi0 (As := [_]) clL_55 dL_typesNumber_38 ⟨_, rfl, rfl⟩ (by decide) rfl (Nat.le_of_ble_eq_true rfl) (by decide) (by decide) hT.j.k.1 hT.j.k.2 (J_type hT _ (by omega) (by first | omega | (simp only [List.length_append, List.length_cons, List.length_nil]; push_cast; omega))) (fun a2 f2 hf2 => ?_)
        obtain ⟨ha2, hT, hx2⟩ := hf2
        have hx : ∀ x, 478 ≤ x → f2 x = f x := fun x h => (hx2 x h).trans (hx x h)
        have hp2 : 0 < a2 ∧ a2 ≤ 82 := by first | omega | (simp only [List.length_append, List.length_cons, List.length_nil] at ha2; push_cast at ha2; omega)
        refine sv_if_le (tgt := 62) dL_typesNumber_41 (by decide) (by unfold sv_in; omega) (fun h_41 => absurd h_41 (by omega)) (fun h_41 => ?_)
        refine sv_aload_n (i := 0) dL_typesNumber_44 rfl rfl ?_
        refine sv_bipush dL_typesNumber_45 (by decide) ?_
        refine sv_iload_n (i := 2) dL_typesNumber_47 rfl rfl ?_
        refine sv_bipush dL_typesNumber_48 (by decide) ?_
        refine sv_irem dL_typesNumber_50 (by omega) (by decide) ?_
        refine sv_iadd dL_typesNumber_51 ?_
        refine sv_vi0 (As := [_]) clL_55 dL_typesNumber_52 ⟨_, rfl, rfl⟩ (by decide) rfl (Nat.le_of_ble_eq_true rfl) (by decide) (by decide) hT.j.k.1 hT.j.k.2 (J_type hT _ (by omega) (by first | omega | (simp only [List.length_append, List.length_cons, List.length_nil]; push_cast; omega))) (fun a3 f3 hf3 => ?_)
        obtain ⟨ha3, hT, hx3⟩ := hf3
        have hx : ∀ x, 478 ≤ x → f3 x = f x := fun x h => (hx3 x h).trans (hx x h)
        have hp3 : 0 < a3 ∧ a3 ≤ 82 := by first | omega | (simp only [List.length_append, List.length_cons, List.length_nil] at ha3; push_cast at ha3; omega)
        refine sv_if_le (tgt := 62) dL_typesNumber_55 (by decide) (by unfold sv_in; omega) (fun h_55 => absurd h_55 (by omega)) (fun h_55 => ?_)
        refine sv_iconst dL_typesNumber_58 ?_
        refine sv_goto (tgt := 63) dL_typesNumber_59 (by decide) ?_
        refine sv_zreturn dL_typesNumber_63 rfl (by decide) ?_
        first
        | (exfalso; omega)
        | exact ⟨_, rfl, rfl, rfl, rfl, rfl, hT.eq (by unfold tx_nm tx_dg; repeat' split <;> first | (exfalso; omega) | (simp; done) | (simp; omega)), hx⟩
    · refine sv_aload_n (i := 0) dL_typesNumber_15 rfl rfl ?_
      refine sv_bipush dL_typesNumber_16 (by decide) ?_
      refine sv_vi0 (As := [_]) clL_55 dL_typesNumber_18 ⟨_, rfl, rfl⟩ (by decide) rfl (Nat.le_of_ble_eq_true rfl) (by decide) (by decide) hT.j.k.1 hT.j.k.2 (J_type hT _ (by omega) (by first | omega | (simp only [List.length_append, List.length_cons, List.length_nil]; push_cast; omega))) (fun a1 f1 hf1 => ?_)
      obtain ⟨ha1, hT, hx1⟩ := hf1
      have hx : ∀ x, 478 ≤ x → f1 x = f x := fun x h => (hx1 x h).trans (hx x h)
      have hp1 : 0 < a1 ∧ a1 ≤ 82 := by first | omega | (simp only [List.length_append, List.length_cons, List.length_nil] at ha1; push_cast at ha1; omega)
      refine sv_if_le (tgt := 62) dL_typesNumber_21 (by decide) (by unfold sv_in; omega) (fun h_21 => absurd h_21 (by omega)) (fun h_21 => ?_)
      refine sv_iload_n (i := 2) dL_typesNumber_24 rfl rfl ?_
      refine sv_bipush dL_typesNumber_25 (by decide) ?_
      refine sv_icmp_lt (tgt := 44) dL_typesNumber_27 (by decide) (by unfold sv_in; omega) (by decide) (fun h_27 => ?_) (fun h_27 => ?_)
      · refine sv_aload_n (i := 0) dL_typesNumber_44 rfl rfl ?_
        refine sv_bipush dL_typesNumber_45 (by decide) ?_
        refine sv_iload_n (i := 2) dL_typesNumber_47 rfl rfl ?_
        refine sv_bipush dL_typesNumber_48 (by decide) ?_
        refine sv_irem dL_typesNumber_50 (by omega) (by decide) ?_
        refine sv_iadd dL_typesNumber_51 ?_
        refine sv_vi0 (As := [_]) clL_55 dL_typesNumber_52 ⟨_, rfl, rfl⟩ (by decide) rfl (Nat.le_of_ble_eq_true rfl) (by decide) (by decide) hT.j.k.1 hT.j.k.2 (J_type hT _ (by omega) (by first | omega | (simp only [List.length_append, List.length_cons, List.length_nil]; push_cast; omega))) (fun a3 f3 hf3 => ?_)
        obtain ⟨ha3, hT, hx3⟩ := hf3
        have hx : ∀ x, 478 ≤ x → f3 x = f x := fun x h => (hx3 x h).trans (hx x h)
        have hp3 : 0 < a3 ∧ a3 ≤ 82 := by first | omega | (simp only [List.length_append, List.length_cons, List.length_nil] at ha3; push_cast at ha3; omega)
        refine sv_if_le (tgt := 62) dL_typesNumber_55 (by decide) (by unfold sv_in; omega) (fun h_55 => absurd h_55 (by omega)) (fun h_55 => ?_)
        refine sv_iconst dL_typesNumber_58 ?_
        refine sv_goto (tgt := 63) dL_typesNumber_59 (by decide) ?_
        refine sv_zreturn dL_typesNumber_63 rfl (by decide) ?_
        first
        | (exfalso; omega)
        | exact ⟨_, rfl, rfl, rfl, rfl, rfl, hT.eq (by unfold tx_nm tx_dg; repeat' split <;> first | (exfalso; omega) | (simp; done) | (simp; omega)), hx⟩
      · refine sv_aload_n (i := 0) dL_typesNumber_30 rfl rfl ?_
        refine sv_bipush dL_typesNumber_31 (by decide) ?_
        refine sv_iload_n (i := 2) dL_typesNumber_33 rfl rfl ?_
        refine sv_bipush dL_typesNumber_34 (by decide) ?_
        refine sv_idiv dL_typesNumber_36 (by omega) (by decide) ?_
        refine sv_iadd dL_typesNumber_37 ?_
        refine sv_vi0 (As := [_]) clL_55 dL_typesNumber_38 ⟨_, rfl, rfl⟩ (by decide) rfl (Nat.le_of_ble_eq_true rfl) (by decide) (by decide) hT.j.k.1 hT.j.k.2 (J_type hT _ (by omega) (by first | omega | (simp only [List.length_append, List.length_cons, List.length_nil]; push_cast; omega))) (fun a2 f2 hf2 => ?_)
        obtain ⟨ha2, hT, hx2⟩ := hf2
        have hx : ∀ x, 478 ≤ x → f2 x = f x := fun x h => (hx2 x h).trans (hx x h)
        have hp2 : 0 < a2 ∧ a2 ≤ 82 := by first | omega | (simp only [List.length_append, List.length_cons, List.length_nil] at ha2; push_cast at ha2; omega)
        refine sv_if_le (tgt := 62) dL_typesNumber_41 (by decide) (by unfold sv_in; omega) (fun h_41 => absurd h_41 (by omega)) (fun h_41 => ?_)
        refine sv_aload_n (i := 0) dL_typesNumber_44 rfl rfl ?_
        refine sv_bipush dL_typesNumber_45 (by decide) ?_
        refine sv_iload_n (i := 2) dL_typesNumber_47 rfl rfl ?_
        refine sv_bipush dL_typesNumber_48 (by decide) ?_
        refine sv_irem dL_typesNumber_50 (by omega) (by decide) ?_
        refine sv_iadd dL_typesNumber_51 ?_
        refine sv_vi0 (As := [_]) clL_55 dL_typesNumber_52 ⟨_, rfl, rfl⟩ (by decide) rfl (Nat.le_of_ble_eq_true rfl) (by decide) (by decide) hT.j.k.1 hT.j.k.2 (J_type hT _ (by omega) (by first | omega | (simp only [List.length_append, List.length_cons, List.length_nil]; push_cast; omega))) (fun a3 f3 hf3 => ?_)
        obtain ⟨ha3, hT, hx3⟩ := hf3
        have hx : ∀ x, 478 ≤ x → f3 x = f x := fun x h => (hx3 x h).trans (hx x h)
        have hp3 : 0 < a3 ∧ a3 ≤ 82 := by first | omega | (simp only [List.length_append, List.length_cons, List.length_nil] at ha3; push_cast at ha3; omega)
        refine sv_if_le (tgt := 62) dL_typesNumber_55 (by decide) (by unfold sv_in; omega) (fun h_55 => absurd h_55 (by omega)) (fun h_55 => ?_)
        refine sv_iconst dL_typesNumber_58 ?_
        refine sv_goto (tgt := 63) dL_typesNumber_59 (by decide) ?_
        refine sv_zreturn dL_typesNumber_63 rfl (by decide) ?_
        first
        | (exfalso; omega)
        | exact ⟨_, rfl, rfl, rfl, rfl, rfl, hT.eq (by unfold tx_nm tx_dg; repeat' split <;> first | (exfalso; omega) | (simp; done) | (simp; omega)), hx⟩
/-- the letters that are not 0 -/
def tx_sl (cs : Nat → Int) : Nat → List Int
  | 0 => []
  | i + 1 => tx_sl cs i ++ (if cs i = 0 then [] else [cs i])
theorem tx_sl_l (cs : Nat → Int) : ∀ i : Nat, ((tx_sl cs i).length : Int) ≤ i := by
  intro i
  induction i with
  | zero => exact Int.le_refl _
  | succ i ih =>
    show ((tx_sl cs i ++ (if cs i = 0 then [] else [cs i])).length : Int) ≤ ((i + 1 : Nat) : Int)
    rw [List.length_append]
    split
    · have : (([] : List Int).length) = 0 := rfl
      omega
    · have : (([cs i] : List Int).length) = 1 := rfl
      omega
set_option maxRecDepth 100000 in
set_option maxHeartbeats 4000000 in
theorem c_L_spells {X : sv_X} {S : sv_S} {f : sv_F} {r : sv_R} {g : sv_G} {m : Int → Int} {l : List Int} (hT : sv_JT S r f m l) (hl : (l.length : Int) + 8 ≤ 80) {y : Int64} {cs : Nat → Int} (hcs : ∀ i : Nat, i < 8 → ((y >>> ((Int32.ofInt (56 - 8 * (i : Int))).toInt64 &&& 63)) &&& 127).toInt32 = Int32.ofInt (cs i) ∧ 0 ≤ cs i ∧ cs i ≤ 127) : sv_C X 1 ML_spells 0 0 [sv_r 0, sv_l y] S f r g (sv_qi (fun a f' => a = 1 ∧ sv_JT S r f' m (l ++ tx_sl cs 8) ∧ ∀ x, 478 ≤ x → f' x = f x) S r g) := by
  refine sv_met (by decide) (by simp [lg_sl, sv_cv, va_rf, Value.category]) ?_
  have lp : ∀ (kk : Nat) (i : Nat) (f1 : sv_F), 8 - (i : Int) < (kk : Int) → (i ≤ 8) → (sv_JT S r f1 m (l ++ tx_sl cs i)) → (∀ x, 478 ≤ x → f1 x = f x) → sv_T X (sv_rm 1 0 0) ML_spells (sv_Zm X 0 0 (sv_qi (fun a f' => a = 1 ∧ sv_JT S r f' m (l ++ tx_sl cs 8) ∧ ∀ x, 478 ≤ x → f' x = f x) S r g)) 0 0 6 [some (sv_r 0), some (sv_l y), none, some (sv_i 1), some (sv_i (56 - 8 * (i : Int))), none] [] S (f1) r g := by
    intro kk
    induction kk with
    | zero =>
      intro i f1 hkk h1 hT hx
      exact absurd hkk (by omega)
    | succ kk ih =>
      intro i f1 hkk h1 hT hx
      refine sv_iload dL_spells_6 rfl ?_
      refine sv_if_lt (tgt := 52) dL_spells_8 (by decide) (by unfold sv_in; omega) (fun h_8 => ?_) (fun h_8 => ?_)
      · refine sv_iload_n (i := 3) dL_spells_52 rfl rfl ?_
        refine sv_zreturn dL_spells_53 rfl (by decide) ?_
        obtain rfl : i = 8 := by omega
        exact ⟨_, rfl, rfl, rfl, rfl, rfl, hT, hx⟩
      · refine sv_lload_n (i := 1) dL_spells_11 rfl rfl ?_
        refine sv_iload dL_spells_12 rfl ?_
        refine sv_lshr dL_spells_14 rfl ?_
        refine sv_ldc2 (n := 127) dL_spells_15 (List.mem_of_getElem? (i := 439) (by decide +kernel)) ?_
        refine sv_land dL_spells_18 ?_
        obtain ⟨hc0, hc⟩ := hcs i (by omega)
        refine sv_l2i dL_spells_19 hc0 ?_
        refine sv_istore dL_spells_20 (by decide) rfl ?_
        refine sv_iload_n (i := 3) dL_spells_22 rfl rfl ?_
        refine sv_if_eq (tgt := 44) dL_spells_23 (by decide) (by decide) (fun h_23 => absurd h_23 (by decide)) (fun h_23 => ?_)
        refine sv_iload dL_spells_26 rfl ?_
        refine sv_if_eq (tgt := 40) dL_spells_28 (by decide) (by unfold sv_in; omega) (fun h_28 => ?_) (fun h_28 => ?_)
        · refine sv_iconst dL_spells_40 ?_
          refine sv_goto (tgt := 45) dL_spells_41 (by decide) ?_
          refine sv_istore_n (i := 3) dL_spells_45 rfl (by decide) rfl ?_
          refine sv_iinc dL_spells_46 rfl (by decide) rfl ?_
          refine sv_goto (tgt := 6) dL_spells_49 (by decide) ?_
          first
          | refine sv_wk (ih (i + 1) f1 (by omega) (by omega) ((hT.hi (fun _ _ => rfl)).eq (by rw [show tx_sl cs (i + 1) = tx_sl cs i ++ (if cs i = 0 then [] else [cs i]) from rfl, if_pos h_28, List.append_nil])) hx) (by simp [sv_sub]; omega) rfl
          | refine sv_wk (ih (i + 1) _ (by omega) (by omega) (hT1.eq (by rw [show tx_sl cs (i + 1) = tx_sl cs i ++ (if cs i = 0 then [] else [cs i]) from rfl, if_neg h_28, List.append_assoc])) (fun x h => (hx2 x h).trans (hx x h))) (by simp [sv_sub]; omega) rfl
        · refine sv_aload_n (i := 0) dL_spells_31 rfl rfl ?_
          refine sv_iload dL_spells_32 rfl ?_
          refine sv_vi0 (As := [_]) clL_55 dL_spells_34 ⟨_, rfl, rfl⟩ (by decide) rfl (Nat.le_of_ble_eq_true rfl) (by decide) (by decide) hT.j.k.1 hT.j.k.2 (J_type hT _ hc (by rw [List.length_append]; push_cast; have := tx_sl_l cs i; omega)) (fun a1 f2 hf1 => ?_)
          obtain ⟨ha1, hT1, hx2⟩ := hf1
          refine sv_if_le (tgt := 44) dL_spells_37 (by decide) (by rw [List.length_append] at ha1; have := tx_sl_l cs i; push_cast at ha1; unfold sv_in; omega) (fun h_37 => absurd h_37 (by omega)) (fun h_37 => ?_)
          refine sv_iconst dL_spells_40 ?_
          refine sv_goto (tgt := 45) dL_spells_41 (by decide) ?_
          refine sv_istore_n (i := 3) dL_spells_45 rfl (by decide) rfl ?_
          refine sv_iinc dL_spells_46 rfl (by decide) rfl ?_
          refine sv_goto (tgt := 6) dL_spells_49 (by decide) ?_
          first
          | refine sv_wk (ih (i + 1) f1 (by omega) (by omega) ((hT.hi (fun _ _ => rfl)).eq (by rw [show tx_sl cs (i + 1) = tx_sl cs i ++ (if cs i = 0 then [] else [cs i]) from rfl, if_pos h_28, List.append_nil])) hx) (by simp [sv_sub]; omega) rfl
          | refine sv_wk (ih (i + 1) _ (by omega) (by omega) (hT1.eq (by rw [show tx_sl cs (i + 1) = tx_sl cs i ++ (if cs i = 0 then [] else [cs i]) from rfl, if_neg h_28, List.append_assoc])) (fun x h => (hx2 x h).trans (hx x h))) (by simp [sv_sub]; omega) rfl
  refine sv_iconst dL_spells_0 ?_
  refine sv_istore_n (i := 3) dL_spells_1 rfl (by decide) rfl ?_
  refine sv_bipush dL_spells_2 (by decide) ?_
  refine sv_istore dL_spells_4 (by decide) rfl ?_
  exact sv_cast (lp 9 0 f (by omega) (by omega) (hT.eq (by simp [tx_sl])) (fun _ _ => rfl)) rfl rfl rfl rfl rfl rfl
def tx_cs (w : Int) (i : Nat) : Int := (if w = 0 then ([0, 0, 0, 0, 0, 115, 101, 116] : List Int) else if w = 1 then [0, 0, 0, 0, 0, 97, 100, 100] else if w = 2 then [0, 0, 0, 0, 115, 119, 97, 112] else if w = 3 then [0, 0, 0, 0, 102, 105, 108, 108] else [0, 0, 0, 0, 116, 117, 114, 110]).getD i 0
def tx_lo (w : Int) : Int64 := if w = 0 then 7562612 else if w = 1 then 6382692 else if w = 2 then 1937203568 else if w = 3 then 1718185068 else 1953854062
theorem tx_cs_ok {w : Int} (hw : 0 ≤ w ∧ w ≤ 4) : (∀ i : Nat, i < 8 → ((tx_lo w >>> ((Int32.ofInt (56 - 8 * (i : Int))).toInt64 &&& 63)) &&& 127).toInt32 = Int32.ofInt (tx_cs w i) ∧ 0 ≤ tx_cs w i ∧ tx_cs w i ≤ 127) ∧ tx_sl (tx_cs w) 8 = tx_wd w := by
  rcases (show w = 0 ∨ w = 1 ∨ w = 2 ∨ w = 3 ∨ w = 4 by omega) with rfl | rfl | rfl | rfl | rfl
  · exact ⟨by decide +kernel, by decide +kernel⟩
  · exact ⟨by decide +kernel, by decide +kernel⟩
  · exact ⟨by decide +kernel, by decide +kernel⟩
  · exact ⟨by decide +kernel, by decide +kernel⟩
  · exact ⟨by decide +kernel, by decide +kernel⟩
