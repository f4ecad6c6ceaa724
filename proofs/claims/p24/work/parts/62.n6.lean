theorem sp_R_in {m : Int → Int} (hw : sp_wt m) {n : Int} : -1 ≤ sp_R m n ∧ sp_R m n ≤ 2 := by
  by_cases h1 : sp_slot m n = -1
  · rw [sp_R_lost hw h1]; omega
  · by_cases h2 : sp_bs m n = -1
    · rw [(sp_V_whole hw h1 h2).2]; split <;> omega
    · by_cases h3 : sp_R m (sp_bs m n) = -1
      · rw [(sp_V_diff hw h1 h2 h3).2]; split <;> omega
      · rw [sp_R_bad hw h1 h2 h3]; omega
theorem sv_V1.congr {S : sv_S} {r : sv_R} {f f' : sv_F} {q : Nat} {kp : Int → Nat} {m : Int → Int} (hmo : sv_K1 S r q kp) (hc : 0 ≤ m 580 ∧ m 580 ≤ 20) (h : sv_V1 f q kp m) (he : ∀ x, q ≤ x → x < q + 64 → f' x = f x) : sv_V1 f' q kp m := by
  obtain ⟨h1, h2, h3, h4, h5, h6, h7, h8⟩ := h
  refine ⟨?_, ?_, ?_, ?_, ?_, ?_, ?_, fun s s0 s1 => ?_⟩
  · rw [he q (by omega) (by omega)]; exact h1
  · rw [he q (by omega) (by omega)]; exact h2
  · rw [he q (by omega) (by omega)]; exact h3
  · rw [he q (by omega) (by omega)]; exact h4
  · rw [he (q + 1) (by omega) (by omega)]; exact h5
  · rw [he (q + 2) (by omega) (by omega)]; exact h6
  · rw [he (q + 2) (by omega) (by omega)]; exact h7
  · have hb := hmo.b (p := s) s0 (by omega)
    exact (h8 s s0 s1).congr (he _ (by omega) (by omega)) (he _ (by omega) (by omega)) (he _ (by omega) (by omega))
set_option maxRecDepth 100000 in
set_option maxHeartbeats 4000000 in
theorem c_X2_readAll {X : sv_X} {S : sv_S} {f : sv_F} {r : sv_R} {g : sv_G} {q d fo rs : Nat} {kp fd : Int → Nat} {m : Int → Int} (hmo : sv_K1 S r q kp) (hmv : sv_V1 f q kp m) (hre : sv_K2 S r d fo rs fd) (hsp : ∀ p, 0 ≤ p → p < 20 → fd p < q ∨ q + 64 ≤ fd p) (hw : sp_wt m) (hsr : rs < q ∨ q + 64 ≤ rs) : sv_C X 3 MX2_readAll 0 0 [sv_r d, sv_r q] S f r g (sv_qv (fun f' => (∀ x, x ≠ rs → (∀ p, 0 ≤ p → p < 20 → x ≠ fd p) → f' x = f x) ∧ sv_V2 f' rs fd m (m 580)) S r g) := by
  refine sv_met (by decide) (by simp [lg_sl, sv_cv, va_rf, Value.category]) ?_
  refine sv_fr fun hin => ?_
  have hcc := hw.c
  have lp : ∀ (kk : Nat) (s : Int) (f1 : sv_F), m 580 - s < (kk : Int) → (0 ≤ s ∧ s ≤ m 580) → ((∀ x, x ≠ rs → (∀ p, 0 ≤ p → p < 20 → x ≠ fd p) → f1 x = f x)) → (sv_V2 f1 rs fd m s) → sv_T X (sv_rm 3 0 0) MX2_readAll (sv_Zm X 0 0 (sv_qv (fun f' => (∀ x, x ≠ rs → (∀ p, 0 ≤ p → p < 20 → x ≠ fd p) → f' x = f x) ∧ sv_V2 f' rs fd m (m 580)) S r g)) 0 0 2 [some (sv_r d), some (sv_r q), some (sv_i s)] [] S (f1) r g := by
    intro kk
    induction kk with
    | zero =>
      intro s f1 hkk h1 h2 h3
      exact absurd hkk (by omega)
    | succ kk ih =>
      intro s f1 hkk h1 h2 h3
      have hv1 : sv_V1 f1 q kp m := sv_V1.congr hmo hcc hmv fun x x0 x1 => h2 x (by omega) fun p p0 p1 => by have := hsp p p0 p1; omega
      refine sv_iload_n (i := 2) dX2_readAll_2 rfl rfl ?_
      refine sv_aload_n (i := 1) dX2_readAll_3 rfl rfl ?_
      refine sv_getI (kz := 3) flX2_20 dX2_readAll_4 rfl rfl hmo.lt hmo.k ?_
      rw [hv1.size]
      refine sv_icmp_ge (tgt := 28) dX2_readAll_7 (by decide) (by omega) (by omega) (fun h_7 => ?_) (fun h_7 => ?_)
      · refine sv_return dX2_readAll_28 rfl ?_
        exact ⟨rfl, rfl, rfl, rfl, h2, fun p p0 p1 => h3 p p0 (by omega)⟩
      · refine sv_aload_n (i := 0) dX2_readAll_10 rfl rfl ?_
        refine sv_getR (kz := 1) flX2_16 dX2_readAll_11 rfl rfl hre.lt hre.k hre.r2 ?_
        refine sv_iload_n (i := 2) dX2_readAll_14 rfl rfl ?_
        refine sv_aload_n (i := 0) dX2_readAll_15 rfl rfl ?_
        refine sv_aload_n (i := 1) dX2_readAll_16 rfl rfl ?_
        refine sv_iload_n (i := 2) dX2_readAll_17 rfl rfl ?_
        refine sv_vi0 (As := [_, _]) clX2_26 dX2_readAll_18 ⟨_, rfl, rfl⟩ (by decide) rfl (Nat.le_of_ble_eq_true rfl) (by decide) (by decide) hre.lt hre.k (c_X2_readPlace hmo hv1 hre hsp hw s (by omega) h3) (fun a f2 hf2 => ?_)
        obtain ⟨e1, e2, e3⟩ := hf2
        have har : sv_in a := by have := sp_R_in hw (n := m (29 * s)); omega
        refine sv_iast dX2_readAll_21 hre.l2 hre.s2 (by omega) har ?_
        refine sv_iinc dX2_readAll_22 rfl (by decide) rfl ?_
        refine sv_goto (tgt := 2) dX2_readAll_25 (by decide) ?_
        have hn := hre.nr (p := s) (by omega) (by omega)
        refine ih (s + 1) _ (by omega) (by omega) ?_ ?_
        · intro x hx hp
          rw [sv_u_ne hx, e2 x (hp s (by omega) (by omega))]
          exact h2 x hx hp
        · intro p p0 p1
          by_cases e : p = s
          · subst e
            refine ⟨by simp [sv_u]; exact e1, fun hR j j0 j1 => ?_⟩
            rw [sv_u_ne hn]
            exact e3 (e1.trans hR) j j0 j1
          · obtain ⟨y1, y2⟩ := h3 p p0 (by omega)
            have hnd := hre.dj (p := p) (p' := s) (by omega) (by omega) (by omega) (by omega) e
            refine ⟨?_, fun hR j j0 j1 => ?_⟩
            · simp [sv_u, e]; rw [e2 rs (Ne.symm hn)]; exact y1
            · rw [sv_u_ne (hre.nr (p := p) (by omega) (by omega)), e2 _ hnd]; exact y2 hR j j0 j1
  refine sv_iconst dX2_readAll_0 ?_
  refine sv_istore_n (i := 2) dX2_readAll_1 rfl (by decide) rfl ?_
  exact lp (m 580 + 1).toNat 0 f (by omega) (by omega) (fun _ _ _ => rfl) (fun p p0 p1 => by omega)
