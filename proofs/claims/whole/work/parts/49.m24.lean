set_option maxRecDepth 100000 in
set_option maxHeartbeats 4000000 in
theorem c_X5_play {X : sv_X} {S : sv_S} {f : sv_F} {r : sv_R} {g : sv_G} {o : Nat} {m : Int → Int} (hsh : sv_M5 S r o) (hm : f (o + 1) = m) (hg : sp_wg m) (h10 : 0 ≤ f o 10 ∧ f o 10 ≤ 80) (hu : 0 ≤ f o 2 ∧ f o 2 ≤ 6) : sv_C X 6 MX5_play 0 0 [sv_r o] S f r g (sv_qi (fun a f' => ∃ (c : Nat) (φ : Int), sp_sc (f (o + 7)) (f o 10) (6 + 2 * m 582 - 1) c φ ∧ ((φ ≠ -1 ∧ a = -2000 - φ ∧ sp_sq o f f') ∨ (φ = -1 ∧ a = c ∧ sp_chg o f f' ∧ f' (o + 1) = sp_run (f (o + 7)) (f o 10) m c))) S r g) := by
  refine sv_met (by decide) (by simp [lg_sl, sv_cv, va_rf, Value.category]) ?_
  refine sv_fr fun hin => ?_
  refine sv_aload_n (i := 0) dX5_play_0 rfl rfl ?_
  refine sv_vv0 (As := []) clX5_134 dX5_play_1 ⟨_, rfl, rfl⟩ (by decide) rfl (Nat.le_of_ble_eq_true rfl) (by decide) (by decide) hsh.lt hsh.k (c_X5_readsScript hsh h10 (by rw [hm]; exact hg.f)) (fun f1 hf1 => ?_)
  rw [hm] at hf1
  obtain ⟨w, q, φ, c1, c, hf1, hsc, htab⟩ := hf1
  have hgf := hg.f
  have hgv : ∀ j, 0 ≤ j → j ≤ (6 + 2 * m 582 - 1) → 0 ≤ m (583 + j) ∧ m (583 + j) ≤ 99 := fun j j0 j1 => hg.v j j0 (by omega)
  have hsq : sp_sq o f f1 := by rw [hf1]; exact sp_rs_sq
  have s1 : ∀ x, x ≠ o → x ≠ o + 8 → f1 x = f x := fun x a b => by rw [hf1]; exact sp_rs_ne a b
  have s2 : f1 o 2 = f o 2 := by rw [hf1]; exact sp_rs_o (by omega) (by omega) (by omega)
  have s10 : f1 o 10 = f o 10 := by rw [hf1]; exact sp_rs_o (by omega) (by omega) (by omega)
  have s12 : f1 o 12 = φ := by rw [hf1]; exact sp_rs_12
  have s8 : f1 (o + 8) = w := by rw [hf1]; exact sp_rs_8
  have s14' : f1 o 14 = c1 := by rw [hf1]; exact sp_rs_14
  refine sv_fr fun hin1 => ?_
  have hφr : sv_in φ := s12 ▸ hin1 o 12
  refine sv_aload_n (i := 0) dX5_play_4 rfl rfl ?_
  refine sv_getI (kz := 12) flX5_94 dX5_play_5 rfl rfl hsh.lt hsh.k ?_
  rw [s12]
  refine sv_iconst dX5_play_8 ?_
  refine sv_icmp_eq (tgt := 21) dX5_play_9 (by decide) hφr (by first | omega | exact hin _ _ | decide | (simp [sv_u, sv_row]; omega) | (simp [sv_u, sv_row]; exact hin _ _) | exact hin1 _ _ | (simp [sv_u, sv_row]; exact hin1 _ _)) (fun h_9 => ?_) (fun h_9 => ?_)
  · have hφ : φ = -1 := by assumption
    subst hφ
    obtain ⟨hc1, htab⟩ := htab rfl
    have hL80 := h10.2
    have hcb : 4 * (c : Int) ≤ 80 := by have := sp_ps_bd h10.1 (fun i hi => hsc.1 i hi); omega
    have s14 : f1 o 14 = c := s14'.trans hc1
    refine sv_aload_n (i := 0) dX5_play_21 rfl rfl ?_
    refine sv_vv0 (As := []) clX5_137 dX5_play_22 ⟨_, rfl, rfl⟩ (by decide) rfl (Nat.le_of_ble_eq_true rfl) (by decide) (by decide) hsh.lt hsh.k (c_X5_keeps hsh (by rw [s2]; exact hu)) (fun f2 hf2 => ?_)
    have k1 : ∀ x, x ≠ o → x ≠ o + 2 → f2 x = f1 x := fun x a1 a2 => by rw [hf2, sv_u_ne a1, sv_row_ne a2]
    have k2 : ∀ j, j ≠ 2 → f2 o j = f1 o j := fun j a1 => by rw [hf2]; simp [sv_u, sv_row, a1]
    have k3 : f2 (o + 2) = sp_kpast (f1 (o + 1)) (f1 (o + 2)) (f1 o 2) := by rw [hf2, sv_u_ne (by omega), sv_row_eq]; rfl
    have k4 : f2 o 2 = sp_ku (f1 o 2) := by rw [hf2]; simp [sv_u]; rfl
    clear hf2
    have lp : ∀ (k : Nat) (i : Nat), c - (i : Int) < (k : Int) → (i ≤ c) → sv_T X (sv_rm 6 0 0) MX5_play (sv_Zm X 0 0 (sv_qi (fun a f' => ∃ (c : Nat) (φ : Int), sp_sc (f (o + 7)) (f o 10) (6 + 2 * m 582 - 1) c φ ∧ ((φ ≠ -1 ∧ a = -2000 - φ ∧ sp_sq o f f') ∨ (φ = -1 ∧ a = c ∧ sp_chg o f f' ∧ f' (o + 1) = sp_run (f (o + 7)) (f o 10) m c))) S r g)) 0 0 27 [some (sv_r o), some (sv_i (i : Nat))] [] S ((sv_row f2 (o + 1) (sp_run (f (o + 7)) (f o 10) m i))) r g := by
      intro k
      induction k with
      | zero =>
        intro i hk h1
        exact absurd hk (by omega)
      | succ k ih =>
        intro i hk h1
        have e14 : (sv_row f2 (o + 1) (sp_run (f (o + 7)) (f o 10) m i)) o 14 = c := by rw [sv_row_ne (by omega), k2 14 (by omega)]; exact s14
        have e8 : (sv_row f2 (o + 1) (sp_run (f (o + 7)) (f o 10) m i)) (o + 8) = w := by rw [sv_row_ne (by omega), k1 (o + 8) (by omega) (by omega)]; exact s8
        refine sv_iload_n (i := 1) dX5_play_27 rfl rfl ?_
        refine sv_aload_n (i := 0) dX5_play_28 rfl rfl ?_
        refine sv_getI (kz := 14) flX5_121 dX5_play_29 rfl rfl hsh.lt hsh.k ?_
        rw [e14]
        refine sv_icmp_ge (tgt := 48) dX5_play_32 (by decide) (by first | omega | exact hin _ _ | decide | (simp [sv_u, sv_row]; omega) | (simp [sv_u, sv_row]; exact hin _ _) | exact hin1 _ _ | (simp [sv_u, sv_row]; exact hin1 _ _)) (by omega) (fun h_32 => ?_) (fun h_32 => ?_)
        · refine sv_aload_n (i := 0) dX5_play_48 rfl rfl ?_
          refine sv_getI (kz := 14) flX5_121 dX5_play_49 rfl rfl hsh.lt hsh.k ?_
          rw [e14]
          refine sv_ireturn dX5_play_52 rfl ?_
          have hci : i = c := by omega
          subst hci
          refine ⟨_, rfl, rfl, rfl, rfl, i, -1, hsc, Or.inr ⟨rfl, rfl, ⟨fun x hx => ?_, ?_, ?_, ?_, ?_⟩, sv_row_eq⟩⟩
          · rw [sv_row_ne (by omega), k1 x (by omega) (by omega), s1 x (by omega) (by omega)]
          · rw [sv_row_ne (by omega), k1 _ (by omega) (by omega), s1 _ (by omega) (by omega)]
          · rw [sv_row_ne (by omega), k2 _ (by omega), s10]
          · rw [sv_row_ne (by omega), k3, s1 _ (by omega) (by omega), s1 _ (by omega) (by omega), s2]
          · rw [sv_row_ne (by omega), k4, s2]
        · have hic : i < c := by omega
          obtain ⟨t1, t2, t3, t4⟩ := htab i hic
          have hpsi := sp_ps_bd h10.1 (c := i) (fun j hj => hsc.1 j (by omega))
          have hpsl := (hsc.1 i hic).1
          have hro := (sp_run_ok (t := f (o + 7)) (L := f o 10) h10.1 (by omega : (6 + 2 * m 582 - 1) ≤ 11) hgv (c := i) (fun j hj => hsc.1 j (by omega))).1
          refine sv_aload_n (i := 0) dX5_play_35 rfl rfl ?_
          refine sv_iconst dX5_play_36 ?_
          refine sv_iload_n (i := 1) dX5_play_37 rfl rfl ?_
          refine sv_imul dX5_play_38 ?_
          refine sv_vv0 (As := [_]) clX5_140 dX5_play_39 ⟨_, rfl, rfl⟩ (by decide) rfl (Nat.le_of_ble_eq_true rfl) (by decide) (by decide) hsh.lt hsh.k (c_X5_does (f := (sv_row f2 (o + 1) (sp_run (f (o + 7)) (f o 10) m i))) (m := sp_run (f (o + 7)) (f o 10) m i) hsh sv_row_eq _ (6 + 2 * m 582 - 1) (by omega) (by omega) (by rw [e8, t1, t2, t3, t4]; exact sp_cmd_ok (by omega) (by omega) (hsc.1 i (by omega)).2) hro) (fun f3 hf3 => ?_)
          rw [e8, t1, t2, t3, t4, sv_row_row] at hf3
          subst hf3
          refine sv_iinc dX5_play_42 rfl (by decide) rfl ?_
          refine sv_goto (tgt := 27) dX5_play_45 (by decide) ?_
          exact ih (i + 1) (by omega) (by omega)
    refine sv_iconst dX5_play_25 ?_
    refine sv_istore_n (i := 1) dX5_play_26 rfl (by decide) rfl ?_
    refine sv_cast (lp (c + 1) 0 (by omega) (by omega)) rfl rfl rfl rfl rfl ?_
    show sv_row f2 (o + 1) m = f2
    rw [← hm, ← s1 (o + 1) (by omega) (by omega), ← k1 (o + 1) (by omega) (by omega), sv_row_id]
  · refine sv_sipush dX5_play_12 (by decide) ?_
    refine sv_aload_n (i := 0) dX5_play_15 rfl rfl ?_
    refine sv_getI (kz := 12) flX5_94 dX5_play_16 rfl rfl hsh.lt hsh.k ?_
    rw [s12]
    refine sv_isub dX5_play_19 ?_
    refine sv_ireturn dX5_play_20 rfl ?_
    exact ⟨_, rfl, rfl, rfl, rfl, c, φ, hsc, Or.inl ⟨by assumption, rfl, hsq⟩⟩
