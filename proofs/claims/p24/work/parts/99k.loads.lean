set_option maxRecDepth 100000 in
set_option maxHeartbeats 4000000 in
theorem c_L_loads {X : sv_X} {S : sv_S} {f : sv_F} {r : sv_R} {g : sv_G} {m : Int → Int} (hJ : sv_J S r f m) (hS : sv_JS S f) (hg : lw_g (f 478) m) (hq : lw_q (f 479) m) {k : Int} (hk : 0 ≤ k ∧ k < m 580) : sv_C X 6 ML_loads 2 24 [sv_r 0, sv_r 478, sv_r 479, sv_i k] S f r g (fun rv' S' f' r' g' => ∃ a, rv' = some (sv_i a) ∧ a = 1 ∧ sv_LI S' r' f') := by
  refine sv_met (by decide) (by simp [lg_sl, sv_cv, va_rf, Value.category]) ?_
  obtain ⟨hw, hwg⟩ := hJ.w
  have hgf := hwg.f
  obtain ⟨g0, g12, g13, g14, g15, g16⟩ := id hg
  have hm7 := hq.1
  have hg597 := hwg.r
  have hg596 := hwg.l
  have main : ∀ S2 : sv_S, S2.1 = S.1 + 2 → S2.2 S.1 = (6, 16) → S2.2 (S.1 + 1) = (6, 8) → (∀ x, x < S.1 → S2.2 x = S.2 x) → sv_T X (sv_rm 6 2 24) ML_loads (sv_Zm X 2 24 (fun rv' S' f' r' g' => ∃ a, rv' = some (sv_i a) ∧ a = 1 ∧ sv_LI S' r' f')) 2 24 12 [some (sv_r 0), some (sv_r 478), some (sv_r 479), some (sv_i k), some (sv_r S.1), some (sv_r (S.1 + 1)), none] [] S2 (f) r g := by
    intro S2 zS hkA hkB hold
    have h480 := hS.1
    have hJ2 : sv_J S2 r f m := hJ.gr (by omega) hold
    have hG : 478 < S2.1 ∧ S2.2 478 = (6, 20) := ⟨by omega, by rw [hold _ (by omega)]; exact hS.2.1⟩
    have hb : 479 < S2.1 ∧ S2.2 479 = (6, 64) := ⟨by omega, by rw [hold _ (by omega)]; exact hS.2.2.1⟩
    have ha : S.1 < S2.1 ∧ S2.2 S.1 = (6, 16) := ⟨by omega, hkA⟩
    have hc : S.1 + 1 < S2.1 ∧ S2.2 (S.1 + 1) = (6, 8) := ⟨by omega, hkB⟩
    have hJS : ∀ f' : sv_F, (∀ x, S2.1 ≤ x → f' x = f x) → sv_JS S2 f' := fun f' h => ⟨by omega, hG.2, hb.2, fun x hx => by rw [h x hx]; exact hS.2.2.2 x (by omega)⟩
    have hkf := hw.frm hk.1 hk.2
    have hsl := hq.slot hk.1 hk.2
    obtain ⟨⟨q0, q1, q2, q4⟩, -⟩ := hq.row hk.1 hk.2
    obtain ⟨F0, hF0⟩ : ∃ F0, m (29 * k + 1) = F0 := ⟨_, rfl⟩
    have hlf : sp_lform m k = if m 597 = 1 then max F0 (m 582) else F0 := by unfold sp_lform; rw [hsl, hF0]
    have hlb : F0 ≤ sp_lform m k ∧ sp_lform m k ≤ 3 ∧ 1 ≤ F0 := by rw [hlf]; split <;> omega
    have p94 : ∀ f2 : sv_F, (∀ z, z ≠ S.1 → z ≠ S.1 + 1 → f2 z = f z) → f2 S.1 12 = sp_lform m k → (∀ j, 0 ≤ j → j < 6 + 2 * sp_lform m k → f2 S.1 j = sp_rz (sp_V m k) F0 (sp_lform m k) j) → sp_R m k = -1 → sv_T X (sv_rm 6 2 24) ML_loads (sv_Zm X 2 24 (fun rv' S' f' r' g' => ∃ a, rv' = some (sv_i a) ∧ a = 1 ∧ sv_LI S' r' f')) 2 24 94 [some (sv_r 0), some (sv_r 478), some (sv_r 479), some (sv_i k), some (sv_r S.1), some (sv_r (S.1 + 1)), none] [] S2 (f2) r g := by
      intro f2 o1 o2 o3 hR
      refine sv_fr fun hin2 => ?_
      have lp : ∀ (kk : Nat) (i : Int), 13 - i < (kk : Int) → (0 ≤ i ∧ i ≤ 13) → sv_T X (sv_rm 6 2 24) ML_loads (sv_Zm X 2 24 (fun rv' S' f' r' g' => ∃ a, rv' = some (sv_i a) ∧ a = 1 ∧ sv_LI S' r' f')) 2 24 97 [some (sv_r 0), some (sv_r 478), some (sv_r 479), some (sv_i k), some (sv_r S.1), some (sv_r (S.1 + 1)), some (sv_i i)] [] S2 ((sv_row f2 478 (fun j => if 0 ≤ j ∧ j < i then f2 S.1 j else f2 478 j))) r g := by
        intro kk
        induction kk with
        | zero =>
          intro i hkk i0
          exact absurd hkk (by omega)
        | succ kk ih =>
          intro i hkk i0
          refine sv_fr fun hin3 => ?_
          have hrA : (sv_row f2 478 (fun j => if 0 ≤ j ∧ j < i then f2 S.1 j else f2 478 j)) S.1 = f2 S.1 := sv_row_ne (by omega)
          refine sv_iload dL_loads_97 rfl ?_
          refine sv_bipush dL_loads_99 (by decide) ?_
          refine sv_icmp_ge (tgt := 119) dL_loads_101 (by decide) (by unfold sv_in; omega) (by decide) (fun h_101 => ?_) (fun h_101 => ?_)
          · obtain rfl : i = 13 := by omega
            have hlt1 : 1 < 2 := by decide
            refine sv_aload_n (i := 1) dL_loads_119 rfl rfl ?_
            refine sv_bipush dL_loads_120 (by decide) ?_
            refine sv_iload_n (i := 3) dL_loads_122 rfl rfl ?_
            refine sv_iast dL_loads_123 hG.1 hG.2 (by decide) (by unfold sv_in; omega) ?_
            have hJ9 : sv_J S2 r (sv_u (sv_row f2 478 (fun j => if 0 ≤ j ∧ j < 13 then f2 S.1 j else f2 478 j)) 478 13 k) m := hJ2.hi fun x hx => by rw [sv_u_ne (by omega), sv_row_ne (by omega)]; exact o1 x (by omega) (by omega)
            have e478 : ∀ j, sv_u (sv_row f2 478 (fun j => if 0 ≤ j ∧ j < 13 then f2 S.1 j else f2 478 j)) 478 13 k 478 j = if j = 13 then k else if 0 ≤ j ∧ j < 13 then f2 S.1 j else f2 478 j := fun j => by simp [sv_u, sv_row]
            refine sv_aload_n (i := 0) dL_loads_124 rfl rfl ?_
            refine sv_iload_n (i := 3) dL_loads_125 rfl rfl ?_
            refine sv_vk0 (As := [_]) clL_52 dL_loads_126 ⟨_, rfl, rfl⟩ (by decide) rfl (Nat.le_of_ble_eq_true rfl) (by decide) (by decide) hJ9.k.1 hJ9.k.2 (J_load hJ9 k (by unfold sv_in; omega)) (fun a2 f9 r9 hf9 => ?_)
            obtain ⟨hx9, hc9⟩ := hf9
            have hc8 : a2 = sp_lform m k ∧ sv_J S2 r9 f9 (lw_ml m k) := by
              rcases hc9 with ⟨e1, -⟩ | ⟨-, e2, -⟩ | ⟨-, -, e3, e4⟩
              · exact absurd e1 (by omega)
              · exact absurd hR e2
              · exact ⟨e3, e4 _ (lw_ml_load hlb.2.1)⟩
            obtain ⟨ha2, hJ3⟩ := hc8
            refine sv_aload_n (i := 1) dL_loads_129 rfl rfl ?_
            refine sv_bipush dL_loads_130 (by decide) ?_
            refine sv_iald dL_loads_132 hG.1 hG.2 (by decide) ?_
            refine sv_icmp_neT (tgt := 140) dL_loads_133 (by decide) (by rw [ha2, hx9 478 (by decide), e478, if_neg (by decide), if_pos (by decide), o2]) ?_
            refine sv_iconst dL_loads_136 ?_
            refine sv_goto (tgt := 141) dL_loads_137 (by decide) ?_
            refine sv_zreturn dL_loads_141 rfl (by decide) ?_
            refine ⟨_, rfl, rfl, lw_ml m k, hJ3, (hJS f9 fun x hx => by rw [hx9 x (by omega), sv_u_ne (by omega), sv_row_ne (by omega)]; exact o1 x (by omega) (by omega)), ?_, ?_⟩
            · rw [hx9 478 (by decide)]
              have o478 : f2 478 = f 478 := o1 478 (by omega) (by omega)
              refine ⟨fun j j0 j1 => ?_, ?_, ?_, ?_, ?_, ?_⟩
              · have e582 : lw_ml m k 582 = sp_lform m k := rfl
                rw [e582] at j1
                rw [e478, if_neg (by omega), if_pos (by omega), o3 j j0 j1]
                unfold lw_ml
                rw [if_neg (by omega), if_neg (by omega), if_pos (by omega), show 583 + j - 583 = j by omega, hsl, hF0]
              · rw [e478, if_neg (by decide), if_pos (by decide)]; exact o2
              · rw [e478, if_pos rfl]; rfl
              · rw [e478, if_neg (by decide), if_neg (by decide), o478]; exact g14
              · rw [e478, if_neg (by decide), if_neg (by decide), o478]; exact g15
              · rw [e478, if_neg (by decide), if_neg (by decide), o478]; exact g16
            · rw [hx9 479 (by decide), sv_u_ne (by decide), sv_row_ne (by decide), o1 479 (by omega) (by omega)]
              exact hq.tab fun j _ j1 => by unfold lw_ml; rw [if_neg (by omega), if_neg (by omega), if_neg (by omega)]
          · refine sv_aload_n (i := 1) dL_loads_104 rfl rfl ?_
            refine sv_iload dL_loads_105 rfl ?_
            refine sv_aload dL_loads_107 rfl ?_
            refine sv_iload dL_loads_109 rfl ?_
            refine sv_iald dL_loads_111 ha.1 ha.2 (by omega) ?_
            refine sv_iast dL_loads_112 hG.1 hG.2 (by omega) (by rw [hrA]; exact hin2 _ _) ?_
            refine sv_iinc dL_loads_113 rfl (by decide) rfl ?_
            refine sv_goto (tgt := 97) dL_loads_116 (by decide) ?_
            refine sv_cast (ih (i + 1) (by omega) (by omega)) rfl rfl rfl rfl rfl ?_
            rw [hrA, sv_u_row, sv_row_eq, sv_row_row]
            refine congrArg (sv_row f2 478) (funext fun j => ?_)
            unfold sp_up
            try dsimp only
            by_cases e : j = i
            · rw [if_pos e, if_pos (by omega), e]
            · rw [if_neg e]
              by_cases e2 : 0 ≤ j ∧ j < i
              · rw [if_pos e2, if_pos (by omega)]
              · rw [if_neg e2, if_neg (by omega)]
      refine sv_iconst dL_loads_94 ?_
      refine sv_istore dL_loads_95 (by decide) rfl ?_
      refine sv_cast (lp 14 0 (by omega) (by omega)) rfl rfl rfl rfl rfl ?_
      funext x y
      unfold sv_row
      split
      · next h => (rw [h]; (try dsimp only); rw [if_neg (by omega)])
      · rfl
    have p66 : sp_R m k = -1 → ∀ f2 : sv_F, (∀ z, z ≠ S.1 → z ≠ S.1 + 1 → f2 z = f z) → (F0 ≤ f2 S.1 12 ∧ f2 S.1 12 ≤ sp_lform m k) → (sp_ok (f2 S.1) (6 + 2 * f2 S.1 12)) → (∀ j, 0 ≤ j → j < 6 + 2 * sp_lform m k → lw_to (f2 S.1) (sp_lform m k) j = sp_rz (sp_V m k) F0 (sp_lform m k) j) → sv_T X (sv_rm 6 2 24) ML_loads (sv_Zm X 2 24 (fun rv' S' f' r' g' => ∃ a, rv' = some (sv_i a) ∧ a = 1 ∧ sv_LI S' r' f')) 2 24 66 [some (sv_r 0), some (sv_r 478), some (sv_r 479), some (sv_i k), some (sv_r S.1), some (sv_r (S.1 + 1)), none] [] S2 (f2) r g := by
      intro hR f2 o1 o2 o4 o5
      have lp66 : ∀ (kk : Nat) (f2 : sv_F), sp_lform m k - f2 S.1 12 < (kk : Int) → (∀ z, z ≠ S.1 → z ≠ S.1 + 1 → f2 z = f z) → (F0 ≤ f2 S.1 12 ∧ f2 S.1 12 ≤ sp_lform m k) → (sp_ok (f2 S.1) (6 + 2 * f2 S.1 12)) → (∀ j, 0 ≤ j → j < 6 + 2 * sp_lform m k → lw_to (f2 S.1) (sp_lform m k) j = sp_rz (sp_V m k) F0 (sp_lform m k) j) → sv_T X (sv_rm 6 2 24) ML_loads (sv_Zm X 2 24 (fun rv' S' f' r' g' => ∃ a, rv' = some (sv_i a) ∧ a = 1 ∧ sv_LI S' r' f')) 2 24 66 [some (sv_r 0), some (sv_r 478), some (sv_r 479), some (sv_i k), some (sv_r S.1), some (sv_r (S.1 + 1)), none] [] S2 (f2) r g := by
        intro kk
        induction kk with
        | zero =>
          intro f2 hkk o1 o2 o4 o5
          exact absurd hkk (by omega)
        | succ kk ih =>
          intro f2 hkk o1 o2 o4 o5
          have o478 : f2 478 = f 478 := o1 478 (by omega) (by omega)
          refine sv_aload_n (i := 1) dL_loads_66 rfl rfl ?_
          refine sv_bipush dL_loads_67 (by decide) ?_
          refine sv_iald dL_loads_69 hG.1 hG.2 (by decide) ?_
          rw [o478, g15]
          refine sv_iconst dL_loads_70 ?_
          refine sv_icmp_ne (tgt := 94) dL_loads_71 (by decide) (by unfold sv_in; omega) (by decide) (fun h_71 => ?_) (fun h_71 => ?_)
          · have e12 : f2 S.1 12 = sp_lform m k := by
              have hh := hlf
              first
              | (rw [if_neg (by assumption)] at hh; omega)
              | (by_cases e : m 597 = 1
                 · rw [if_pos e] at hh; omega
                 · rw [if_neg e] at hh; omega)
            refine p94 f2 o1 e12 (fun j j0 j1 => ?_) hR
            have := o5 j j0 j1
            rw [lw_to_id (by omega)] at this
            exact this
          · refine sv_aload dL_loads_74 rfl ?_
            refine sv_bipush dL_loads_76 (by decide) ?_
            refine sv_iald dL_loads_78 ha.1 ha.2 (by decide) ?_
            refine sv_aload_n (i := 1) dL_loads_79 rfl rfl ?_
            refine sv_bipush dL_loads_80 (by decide) ?_
            refine sv_iald dL_loads_82 hG.1 hG.2 (by decide) ?_
            rw [o478, g12]
            refine sv_icmp_ge (tgt := 94) dL_loads_83 (by decide) (by unfold sv_in; omega) (by unfold sv_in; omega) (fun h_83 => ?_) (fun h_83 => ?_)
            · have e12 : f2 S.1 12 = sp_lform m k := by
                have hh := hlf
                first
                | (rw [if_neg (by assumption)] at hh; omega)
                | (by_cases e : m 597 = 1
                   · rw [if_pos e] at hh; omega
                   · rw [if_neg e] at hh; omega)
              refine p94 f2 o1 e12 (fun j j0 j1 => ?_) hR
              have := o5 j j0 j1
              rw [lw_to_id (by omega)] at this
              exact this
            · refine sv_aload dL_loads_86 rfl ?_
              have hlf2 : sp_lform m k = max F0 (m 582) := by rw [hlf, if_pos (by omega)]
              refine sv_sv0 (As := [_]) clL_23 dL_loads_88 rfl (Nat.le_of_ble_eq_true rfl) (by decide) (by decide) (c_L_raises (a := S.1) ha (by decide) (by omega) o4) (fun f3 hf3 => ?_)
              refine sv_goto (tgt := 66) dL_loads_91 (by decide) ?_
              subst hf3
              have e12 : lw_up (f2 S.1) 12 = f2 S.1 12 + 1 := if_pos rfl
              refine ih (sv_row f2 S.1 (lw_up (f2 S.1))) ?_ (fun z z1 z2 => by rw [sv_row_ne z1]; exact o1 z z1 z2) ?_ ?_ (fun j j0 j1 => ?_)
              · rw [sv_row_eq]; omega
              · rw [sv_row_eq]; omega
              · rw [sv_row_eq]; exact lw_up_ok (by omega) o4
              · rw [sv_row_eq, lw_to_up (by omega) (by omega) (by omega)]; exact o5 j j0 j1
      exact lp66 (sp_lform m k - f2 S.1 12 + 1).toNat f2 (by omega) o1 o2 o4 o5
    refine sv_aload_n (i := 2) dL_loads_12 rfl rfl ?_
    refine sv_bipush dL_loads_13 (by decide) ?_
    refine sv_iload_n (i := 3) dL_loads_15 rfl rfl ?_
    refine sv_imul dL_loads_16 ?_
    refine sv_iald dL_loads_17 hb.1 hb.2 (by omega) ?_
    rw [q0]
    refine sv_if_ne (tgt := 37) dL_loads_18 (by decide) (by unfold sv_in; omega) (fun h_18 => ?_) (fun h_18 => absurd h_18 (by omega))
    refine sv_aload_n (i := 2) dL_loads_37 rfl rfl ?_
    refine sv_iload_n (i := 3) dL_loads_38 rfl rfl ?_
    refine sv_aload dL_loads_39 rfl ?_
    refine sv_aload dL_loads_41 rfl ?_
    refine sv_si0 (As := [_, _, _, _]) clL_34 dL_loads_43 rfl (Nat.le_of_ble_eq_true rfl) (by decide) (by decide) (c_L_reads (b := 479) (a := S.1) (c := S.1 + 1) hb hw hq ha hc (by omega) (by omega) (by omega) hk) (fun a1 f1 hf1 => ?_)
    obtain ⟨ha1, hx1, hV1⟩ := hf1
    have hJ1 : sv_J S2 r f1 m := hJ2.hi fun x hx => hx1 x (by omega) (by omega)
    have hRb : -1 ≤ sp_R m k ∧ sp_R m k ≤ 2 := sp_R_in hw
    refine sv_iconst dL_loads_46 ?_
    refine sv_icmp_eq (tgt := 66) dL_loads_47 (by decide) (by unfold sv_in; omega) (by decide) (fun h_47 => ?_) (fun h_47 => ?_)
    · have hR : sp_R m k = -1 := ha1.symm.trans h_47
      obtain ⟨v1, v2⟩ := hV1 hR
      rw [hF0] at v1 v2
      have hok := sp_V_ok' hw hR
      rw [hsl, hF0] at hok
      refine p66 hR f1 hx1 (by omega) (by rw [v1]; exact fun j j0 j1 => by rw [v2 j j0 j1]; exact hok j j0 j1) (fun j j0 j1 => ?_)
      unfold lw_to
      rw [if_neg (by omega), v1]
      exact sp_rz_congr hlb.2.2 hlb.1 hlb.2.1 v2 j j0 j1
    · refine sv_aload_n (i := 0) dL_loads_50 rfl rfl ?_
      refine sv_iload_n (i := 3) dL_loads_51 rfl rfl ?_
      refine sv_vk0 (As := [_]) clL_52 dL_loads_52 ⟨_, rfl, rfl⟩ (by decide) rfl (Nat.le_of_ble_eq_true rfl) (by decide) (by decide) hJ1.k.1 hJ1.k.2 (J_load hJ1 k (by unfold sv_in; omega)) (fun a2 f9 r9 hf9 => ?_)
      obtain ⟨hx9, hc9⟩ := hf9
      have hc8 : a2 = -3 ∧ sv_J S2 r9 f9 m := by
        rcases hc9 with ⟨e1, -⟩ | ⟨-, -, e2, e3⟩ | ⟨-, e2, -⟩
        · exact absurd e1 (by omega)
        · exact ⟨e2, e3⟩
        · exact absurd (ha1.trans e2) h_47
      obtain ⟨ha2, hJ3⟩ := hc8
      refine sv_bipush dL_loads_55 (by decide) ?_
      refine sv_icmp_neT (tgt := 64) dL_loads_57 (by decide) ha2 ?_
      refine sv_iconst dL_loads_60 ?_
      refine sv_goto (tgt := 65) dL_loads_61 (by decide) ?_
      refine sv_zreturn dL_loads_65 rfl (by decide) ?_
      exact ⟨_, rfl, rfl, m, hJ3, (hJS f9 fun x hx => by rw [hx9 x (by omega)]; exact hx1 x (by omega) (by omega)), by rw [hx9 478 (by decide), hx1 478 (by omega) (by omega)]; exact hg, by rw [hx9 479 (by decide), hx1 479 (by omega) (by omega)]; exact hq⟩
  refine sv_bipush dL_loads_0 (by decide) ?_
  refine sv_aF (a := S.1) rfl rfl (by decide) dL_loads_2 hS.2.2.2 ⟨by decide, by decide⟩ sv_arI (fun S1 zS1 kS1 eS1 => ?_)
  refine sv_astore dL_loads_4 (by decide) rfl ?_
  refine sv_bipush dL_loads_6 (by decide) ?_
  refine sv_aF (a := (S.1 + 1)) zS1 rfl (by decide) dL_loads_8 (fun x hx => hS.2.2.2 x (by omega)) ⟨by decide, by decide⟩ sv_arI (fun S2 zS2 kS2 eS2 => ?_)
  refine sv_astore dL_loads_10 (by decide) rfl ?_
  exact main S2 (by omega) (by rw [eS2 _ (by omega)]; exact kS1) kS2 (fun x hx => by rw [eS2 x (by omega), eS1 x hx])
