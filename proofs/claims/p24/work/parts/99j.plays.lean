set_option maxRecDepth 100000 in
set_option maxHeartbeats 4000000 in
theorem c_L_plays {X : sv_X} {S : sv_S} {f : sv_F} {r : sv_R} {g : sv_G} {m : Int → Int} (hJ : sv_J S r f m) (hS : sv_JS S f) (hg : lw_g (f 478) m) (hq : lw_q (f 479) m) {x y : Int} : sv_C X 9 ML_plays 0 0 [sv_r 0, sv_r 478, sv_i x, sv_i y] S f r g (sv_qk (fun a f' r' => a = 1 ∧ sv_LI S r' f') S g) := by
  refine sv_met (by decide) (by simp [lg_sl, sv_cv, va_rf, Value.category]) ?_
  obtain ⟨hw, hwg⟩ := hJ.w
  have hgf := hwg.f
  obtain ⟨g0, g12, g13, g14, g15, g16⟩ := id hg
  have hlt : 478 < S.1 := by have := hS.1; omega
  have lq : ∀ n : Int, (0 ≤ n ∧ n < 4) → ∀ (kk : Nat) (k : Nat) (f1 : sv_F) (l1 : List Int) (mm : Int → Int), n - (k : Int) < (kk : Int) → ((k : Int) ≤ n) → (sv_JT S r f1 m l1) → (tx_ok (6 + 2 * m 582 - 1) m l1 k mm) → ((l1.length : Int) ≤ 1 + 16 * (k : Int)) → (lw_g (f1 478) mm) → (mm 582 = m 582) → (∀ j, 0 ≤ j → j < 6 + 2 * m 582 → 0 ≤ mm (583 + j) ∧ mm (583 + j) ≤ 99) → (∀ j, (j < 583 ∨ 583 + (6 + 2 * m 582 - 1) < j) → mm j = m j) → (∀ z, 479 ≤ z → f1 z = f z) → sv_T X (sv_rm 9 0 0) ML_plays (sv_Zm X 0 0 (sv_qk (fun a f' r' => a = 1 ∧ sv_LI S r' f') S g)) 0 0 41 [some (sv_r 0), some (sv_r 478), some (sv_i x), some (sv_i y), some (sv_i n), some (sv_i 1), some (sv_i (k : Nat))] [] S (f1) r g := by
    intro n hn
    have lp : ∀ (kk : Nat) (k : Nat) (f1 : sv_F) (l1 : List Int) (mm : Int → Int), n - (k : Int) < (kk : Int) → ((k : Int) ≤ n) → (sv_JT S r f1 m l1) → (tx_ok (6 + 2 * m 582 - 1) m l1 k mm) → ((l1.length : Int) ≤ 1 + 16 * (k : Int)) → (lw_g (f1 478) mm) → (mm 582 = m 582) → (∀ j, 0 ≤ j → j < 6 + 2 * m 582 → 0 ≤ mm (583 + j) ∧ mm (583 + j) ≤ 99) → (∀ j, (j < 583 ∨ 583 + (6 + 2 * m 582 - 1) < j) → mm j = m j) → (∀ z, 479 ≤ z → f1 z = f z) → sv_T X (sv_rm 9 0 0) ML_plays (sv_Zm X 0 0 (sv_qk (fun a f' r' => a = 1 ∧ sv_LI S r' f') S g)) 0 0 41 [some (sv_r 0), some (sv_r 478), some (sv_i x), some (sv_i y), some (sv_i n), some (sv_i 1), some (sv_i (k : Nat))] [] S (f1) r g := by
      intro kk
      induction kk with
      | zero =>
        intro k f1 l1 mm hkk hk hT hko hll hgg hf5 hvv hst hxx
        exact absurd hkk (by omega)
      | succ kk ih =>
        intro k f1 l1 mm hkk hk hT hko hll hgg hf5 hvv hst hxx
        refine sv_iload dL_plays_41 rfl ?_
        refine sv_iload dL_plays_43 rfl ?_
        refine sv_icmp_ge (tgt := 85) dL_plays_45 (by decide) (by unfold sv_in; omega) (by unfold sv_in; omega) (fun h_45 => ?_) (fun h_45 => ?_)
        · refine sv_iload dL_plays_85 rfl ?_
          refine sv_if_eq (tgt := 103) dL_plays_87 (by decide) (by decide) (fun h_87 => absurd h_87 (by decide)) (fun h_87 => ?_)
          refine sv_aload_n (i := 0) dL_plays_90 rfl rfl ?_
          refine sv_vk0 (As := []) clL_89 dL_plays_91 ⟨_, rfl, rfl⟩ (by decide) rfl (Nat.le_of_ble_eq_true rfl) (by decide) (by decide) hT.j.k.1 hT.j.k.2 (J_play hT hko) (fun a2 f3 r3 hf3 => ?_)
          obtain ⟨ha2, hJ3, hx3⟩ := hf3
          refine sv_iload dL_plays_94 rfl ?_
          refine sv_icmp_neT (tgt := 103) dL_plays_96 (by decide) (by omega) ?_
          refine sv_iconst dL_plays_99 ?_
          refine sv_goto (tgt := 104) dL_plays_100 (by decide) ?_
          refine sv_zreturn dL_plays_104 rfl (by decide) ?_
          refine ⟨_, rfl, rfl, rfl, rfl, mm, hJ3, (hS.cg (fun z hz => hxx z (by omega))).hi hx3, by rw [hx3 478 (by decide)]; exact hgg, ?_⟩
          rw [hx3 479 (by decide), hxx 479 (by decide)]
          exact hq.tab fun j j0 j1 => hst j (by omega)
        · refine sv_iload dL_plays_48 rfl ?_
          refine sv_if_eq (tgt := 76) dL_plays_50 (by decide) (by decide) (fun h_50 => absurd h_50 (by decide)) (fun h_50 => ?_)
          refine sv_aload_n (i := 0) dL_plays_53 rfl rfl ?_
          refine sv_aload_n (i := 1) dL_plays_54 rfl rfl ?_
          refine sv_iload_n (i := 3) dL_plays_55 rfl rfl ?_
          refine sv_iconst dL_plays_56 ?_
          refine sv_iload dL_plays_57 rfl ?_
          refine sv_imul dL_plays_59 ?_
          refine sv_ishrU dL_plays_60 (fun z_60 hz_60 => ?_)
          refine sv_iload_n (i := 2) dL_plays_61 rfl rfl ?_
          refine sv_iload dL_plays_62 rfl ?_
          refine sv_ishrU dL_plays_64 (fun z_64 hz_64 => ?_)
          refine sv_ixorU dL_plays_65 (fun z_65 hz_65 => ?_)
          refine sv_si0 (As := [_, _, _]) clL_85 dL_plays_66 rfl (Nat.le_of_ble_eq_true rfl) (by decide) (by decide) (c_L_types hT (by omega) (hS.cg (fun z hz => hxx z (by omega))) hgg (by omega) (fun j j0 j1 => hvv j j0 (by omega))) (fun a1 f2 hf2 => ?_)
          obtain ⟨ha1, w, p, q, c, b1, b2, hok, hc3, hT2, hgg2, hxx2⟩ := hf2
          refine sv_if_eq (tgt := 76) dL_plays_69 (by decide) (by unfold sv_in; omega) (fun h_69 => absurd h_69 (by omega)) (fun h_69 => ?_)
          refine sv_iconst dL_plays_72 ?_
          refine sv_goto (tgt := 77) dL_plays_73 (by decide) ?_
          refine sv_istore dL_plays_77 (by decide) rfl ?_
          refine sv_iinc dL_plays_79 rfl (by decide) rfl ?_
          refine sv_goto (tgt := 41) dL_plays_82 (by decide) ?_
          have hsz := tx_cmd_l (w := w) (a := p) (b := q) (c := c) (b1 := b1) (b2 := b2)
          obtain ⟨o1, o2⟩ := sp_ex_ok (m := mm) (hi := 6 + 2 * mm 582 - 1) (by omega) (fun j j0 j1 => hvv j j0 (by omega)) hok
          refine sv_cast (ih (k + 1) f2 _ (sp_ex w p q c mm) (by omega) (by omega) hT2 ?_ (by rw [List.length_append]; push_cast; omega) hgg2 (by rw [o2 582 (by omega)]; exact hf5) (fun j j0 j1 => o1 j j0 (by omega)) (fun j hj => by rw [o2 j (by omega)]; exact hst j hj) (fun z hz => (hxx2 z hz).trans (hxx z hz))) rfl rfl rfl rfl rfl rfl
          rw [hf5] at hok
          exact tx_ok1 hko hok (by omega) hc3
    exact lp
  refine sv_iload_n (i := 2) dL_plays_0 rfl rfl ?_
  refine sv_iconst dL_plays_1 ?_
  refine sv_su0 (As := [_, _]) clL_60 dL_plays_2 rfl (Nat.le_of_ble_eq_true rfl) (by decide) (by decide) (c_L_low (by decide)) (fun a_2 hb_2 => ?_)
  refine sv_istore dL_plays_5 (by decide) rfl ?_
  refine sv_aload_n (i := 0) dL_plays_7 rfl rfl ?_
  refine sv_vi0 (As := []) clL_82 dL_plays_8 ⟨_, rfl, rfl⟩ (by decide) rfl (Nat.le_of_ble_eq_true rfl) (by decide) (by decide) hJ.k.1 hJ.k.2 (J_clear hJ) (fun ac f1 hfc => ?_)
  obtain ⟨hac0, hac1, hT, hxc⟩ := hfc
  refine sv_if_lt (tgt := 35) dL_plays_11 (by decide) (by unfold sv_in; omega) (fun h_11 => absurd h_11 (by omega)) (fun h_11 => ?_)
  refine sv_iload_n (i := 2) dL_plays_14 rfl rfl ?_
  refine sv_iconst dL_plays_15 ?_
  refine sv_ishrU dL_plays_16 (fun z_16 hz_16 => ?_)
  refine sv_iconst dL_plays_17 ?_
  refine sv_iandU dL_plays_18 (fun z_18 hz_18 => ?_)
  refine sv_if_eq (tgt := 31) dL_plays_19 (by decide) hz_18 (fun h_19 => ?_) (fun h_19 => ?_)
  · refine sv_iconst dL_plays_31 ?_
    refine sv_goto (tgt := 36) dL_plays_32 (by decide) ?_
    refine sv_istore dL_plays_36 (by decide) rfl ?_
    refine sv_iconst dL_plays_38 ?_
    refine sv_istore dL_plays_39 (by decide) rfl ?_
    have fin : ∀ (f9 : sv_F) (d : Bool), sv_JT S r f9 m (tx_bl d) → (∀ z, 478 ≤ z → f9 z = f z) → sv_T X (sv_rm 9 0 0) ML_plays (sv_Zm X 0 0 (sv_qk (fun a f' r' => a = 1 ∧ sv_LI S r' f') S g)) 0 0 41 [some (sv_r 0), some (sv_r 478), some (sv_i x), some (sv_i y), some (sv_i a_2), some (sv_i 1), some (sv_i 0)] [] S (f9) r g := fun f9 d hT9 hx9 => sv_cast (lq a_2 hb_2 5 0 f9 (tx_bl d) m (by omega) (by omega) hT9 (tx_ok0 d) (by have := tx_bl_1 d; omega) (by rw [hx9 478 (by decide)]; exact hg) rfl (fun j j0 j1 => hwg.v j j0 j1) (fun _ _ => rfl) (fun z hz => hx9 z (by omega))) rfl rfl rfl rfl rfl rfl
    by_cases hz : z_18 = 0
    · first
      | exact absurd hz h_19
      | exact fin _ false hT hxc
    · first
      | exact absurd h_19 hz
      | exact fin _ true hT2 (fun z hz => (hxt z hz).trans (hxc z hz))
  · refine sv_aload_n (i := 0) dL_plays_22 rfl rfl ?_
    refine sv_bipush dL_plays_23 (by decide) ?_
    refine sv_vi0 (As := [_]) clL_55 dL_plays_25 ⟨_, rfl, rfl⟩ (by decide) rfl (Nat.le_of_ble_eq_true rfl) (by decide) (by decide) hT.j.k.1 hT.j.k.2 (J_type hT 32 (by decide) (by decide)) (fun at1 f2 hft => ?_)
    obtain ⟨hat1, hT2, hxt⟩ := hft
    have hat2 : at1 = 1 := hat1
    refine sv_if_le (tgt := 35) dL_plays_28 (by decide) (by unfold sv_in; omega) (fun h_28 => absurd h_28 (by omega)) (fun h_28 => ?_)
    refine sv_iconst dL_plays_31 ?_
    refine sv_goto (tgt := 36) dL_plays_32 (by decide) ?_
    refine sv_istore dL_plays_36 (by decide) rfl ?_
    refine sv_iconst dL_plays_38 ?_
    refine sv_istore dL_plays_39 (by decide) rfl ?_
    have fin : ∀ (f9 : sv_F) (d : Bool), sv_JT S r f9 m (tx_bl d) → (∀ z, 478 ≤ z → f9 z = f z) → sv_T X (sv_rm 9 0 0) ML_plays (sv_Zm X 0 0 (sv_qk (fun a f' r' => a = 1 ∧ sv_LI S r' f') S g)) 0 0 41 [some (sv_r 0), some (sv_r 478), some (sv_i x), some (sv_i y), some (sv_i a_2), some (sv_i 1), some (sv_i 0)] [] S (f9) r g := fun f9 d hT9 hx9 => sv_cast (lq a_2 hb_2 5 0 f9 (tx_bl d) m (by omega) (by omega) hT9 (tx_ok0 d) (by have := tx_bl_1 d; omega) (by rw [hx9 478 (by decide)]; exact hg) rfl (fun j j0 j1 => hwg.v j j0 j1) (fun _ _ => rfl) (fun z hz => hx9 z (by omega))) rfl rfl rfl rfl rfl rfl
    by_cases hz : z_18 = 0
    · first
      | exact absurd hz h_19
      | exact fin _ false hT hxc
    · first
      | exact absurd h_19 hz
      | exact fin _ true hT2 (fun z hz => (hxt z hz).trans (hxc z hz))
/-- the game as a kept state is loaded -/
def lw_ml (m : Int → Int) (k : Int) : Int → Int := fun j => if j = 582 then sp_lform m k else if j = 595 then k else if 583 ≤ j ∧ j < 595 then sp_rz (sp_V m k) (m (29 * sp_slot m k + 1)) (sp_lform m k) (j - 583) else m j
theorem lw_ml_load {m : Int → Int} {k : Int} (h : sp_lform m k ≤ 3) : sp_load m k (lw_ml m k) := by
  refine ⟨fun j _ j1 => ?_, rfl, rfl, rfl, rfl, fun j j0 j1 => ?_⟩
  · unfold lw_ml; rw [if_neg (by omega), if_neg (by omega), if_neg (by omega)]
  · unfold lw_ml
    rw [if_neg (by omega), if_neg (by omega), if_pos (by omega), show 583 + j - 583 = j by omega]
