set_option maxRecDepth 100000 in
set_option maxHeartbeats 4000000 in
theorem c_X5_climbs {X : sv_X} {S : sv_S} {f : sv_F} {r : sv_R} {g : sv_G} {o : Nat} {m : Int → Int} (hsh : sv_M5 S r o) (hm : f (o + 1) = m) (hw : sp_wt m) (n : Int) (hn : 0 ≤ n ∧ n ≤ 2147483647) : sv_C X 2 MX5_climbs 0 0 [sv_r o, sv_i n] S f r g (sv_qv (fun f' => ∃ L : Nat, 1 ≤ L ∧ L ≤ 21 ∧ (∀ k : Nat, k < L → sp_ch m n k ≠ -1) ∧ sp_ch m n L = -1 ∧ f' = sv_u (sv_row f (o + 4) (fun j => if 0 ≤ j ∧ j < (L : Int) then sp_ch m n j.toNat else f (o + 4) j)) o 7 (L : Int)) S r g) := by
  refine sv_met (by decide) (by simp [lg_sl, sv_cv, va_rf, Value.category]) ?_
  refine sv_fr fun hin => ?_
  have hcc := hw.c
  have lp : ∀ (k : Nat) (q : Nat) (x : Int), 22 - (q : Int) < (k : Int) → (q ≤ 21 ∧ (x ≠ -1 → q ≤ 20)) → (∀ k : Nat, k < q → sp_ch m n k ≠ -1) → (x = sp_ch m n q) → (sv_in x) → (x ≠ -1 → (q ≤ 20 ∧ (sp_slot m x ≠ -1 → sp_slot m x + q ≤ 19))) → sv_T X (sv_rm 2 0 0) MX5_climbs (sv_Zm X 0 0 (sv_qv (fun f' => ∃ L : Nat, 1 ≤ L ∧ L ≤ 21 ∧ (∀ k : Nat, k < L → sp_ch m n k ≠ -1) ∧ sp_ch m n L = -1 ∧ f' = sv_u (sv_row f (o + 4) (fun j => if 0 ≤ j ∧ j < (L : Int) then sp_ch m n j.toNat else f (o + 4) j)) o 7 (L : Int)) S r g)) 0 0 7 [some (sv_r o), some (sv_i n), some (sv_i x), none] [] S (sv_u (sv_row f (o + 4) (fun j => if 0 ≤ j ∧ j < (q : Int) then sp_ch m n j.toNat else f (o + 4) j)) o 7 (q : Int)) r g := by
    intro k
    induction k with
    | zero =>
      intro q x hk h1 h2 hx hi hbd
      exact absurd hk (by omega)
    | succ k ih =>
      intro q x hk h1 h2 hx hi hbd
      refine sv_fr fun hin1 => ?_
      refine sv_iload_n (i := 2) dX5_climbs_7 rfl rfl ?_
      refine sv_iconst dX5_climbs_8 ?_
      refine sv_icmp_eq (tgt := 57) dX5_climbs_9 (by decide) (by first | omega | exact hin _ _ | decide | (simp [sv_u, sv_row]; omega) | (simp [sv_u, sv_row]; exact hin _ _) | exact hin1 _ _ | (simp [sv_u, sv_row]; exact hin1 _ _)) (by first | omega | exact hin _ _ | decide | (simp [sv_u, sv_row]; omega) | (simp [sv_u, sv_row]; exact hin _ _) | exact hin1 _ _ | (simp [sv_u, sv_row]; exact hin1 _ _)) (fun h_9 => ?_) (fun h_9 => ?_)
      · refine sv_return dX5_climbs_57 rfl ?_
        refine ⟨rfl, rfl, rfl, rfl, q, ?_, h1.1, h2, by rw [← hx]; exact h_9, rfl⟩
        by_cases hq : q = 0
        · subst hq
          have : x = n := hx
          omega
        · omega
      · have hb := hbd h_9
        have hxn : sp_ch m n q ≠ -1 := by rw [← hx]; exact h_9
        refine sv_aload_n (i := 0) dX5_climbs_12 rfl rfl ?_
        refine sv_getR (kz := 5) flX5_19 dX5_climbs_13 rfl rfl hsh.lt hsh.k hsh.r4 ?_
        refine sv_aload_n (i := 0) dX5_climbs_16 rfl rfl ?_
        refine sv_getI (kz := 7) flX5_56 dX5_climbs_17 rfl rfl hsh.lt hsh.k ?_
        refine sv_iload_n (i := 2) dX5_climbs_20 rfl rfl ?_
        refine sv_iast dX5_climbs_21 hsh.l4 hsh.s4 (by simp [sv_u]; omega) (by first | omega | exact hin _ _ | decide | (simp [sv_u, sv_row]; omega) | (simp [sv_u, sv_row]; exact hin _ _) | exact hin1 _ _ | (simp [sv_u, sv_row]; exact hin1 _ _)) ?_
        refine sv_aload_n (i := 0) dX5_climbs_22 rfl rfl ?_
        refine sv_dup dX5_climbs_23 rfl ?_
        refine sv_getI (kz := 7) flX5_56 dX5_climbs_24 rfl rfl hsh.lt hsh.k ?_
        refine sv_iconst dX5_climbs_27 ?_
        refine sv_iadd dX5_climbs_28 ?_
        refine sv_putI (kz := 7) flX5_56 dX5_climbs_29 (Or.inl rfl) rfl rfl hsh.lt hsh.k (by first | omega | exact hin _ _ | decide | (simp [sv_u, sv_row]; omega) | (simp [sv_u, sv_row]; exact hin _ _) | exact hin1 _ _ | (simp [sv_u, sv_row]; exact hin1 _ _)) ?_
        refine sv_aload_n (i := 0) dX5_climbs_32 rfl rfl ?_
        refine sv_iload_n (i := 2) dX5_climbs_33 rfl rfl ?_
        refine sv_vp0 (As := [_]) clX5_59 dX5_climbs_34 ⟨_, rfl, rfl⟩ (by decide) rfl (Nat.le_of_ble_eq_true rfl) (by decide) (by decide) hsh.lt hsh.k (c_X5_slotOf (m := m) hsh (by first | exact hm | rfl | (simp only [sv_u_ne, sv_row_ne, sv_row_eq, ne_eq, Nat.add_left_cancel_iff, Nat.reduceEqDiff, not_false_eq_true, Nat.add_eq_left, reduceCtorEq, OfNat.ofNat_ne_zero, OfNat.one_ne_ofNat, OfNat.ofNat_ne_one, one_ne_zero, Nat.succ_ne_self]; first | exact hm | rfl) | (simp [sv_u_ne, sv_row_ne, sv_row_eq]; done) | (simp [sv_u_ne, sv_row_ne, sv_row_eq]; exact hm)) _ (by omega) hw.c) ?_
        refine sv_istore_n (i := 3) dX5_climbs_37 rfl (by decide) rfl ?_
        have hst := sp_slot_spec m x
        refine sv_iload_n (i := 3) dX5_climbs_38 rfl rfl ?_
        refine sv_iconst dX5_climbs_39 ?_
        refine sv_icmp_ne (tgt := 47) dX5_climbs_40 (by decide) (by first | omega | exact hin _ _ | decide | (simp [sv_u, sv_row]; omega) | (simp [sv_u, sv_row]; exact hin _ _) | exact hin1 _ _ | (simp [sv_u, sv_row]; exact hin1 _ _)) (by first | omega | exact hin _ _ | decide | (simp [sv_u, sv_row]; omega) | (simp [sv_u, sv_row]; exact hin _ _) | exact hin1 _ _ | (simp [sv_u, sv_row]; exact hin1 _ _)) (fun h_40 => ?_) (fun h_40 => ?_)
        · refine sv_aload_n (i := 0) dX5_climbs_47 rfl rfl ?_
          refine sv_iload_n (i := 3) dX5_climbs_48 rfl rfl ?_
          refine sv_iconst dX5_climbs_49 ?_
          refine sv_vp0 (As := [_, _]) clX5_38 dX5_climbs_50 ⟨_, rfl, rfl⟩ (by decide) rfl (Nat.le_of_ble_eq_true rfl) (by decide) (by decide) hsh.lt hsh.k (c_X5_of (m := m) hsh (by first | exact hm | rfl | (simp only [sv_u_ne, sv_row_ne, sv_row_eq, ne_eq, Nat.add_left_cancel_iff, Nat.reduceEqDiff, not_false_eq_true, Nat.add_eq_left, reduceCtorEq, OfNat.ofNat_ne_zero, OfNat.one_ne_ofNat, OfNat.ofNat_ne_one, one_ne_zero, Nat.succ_ne_self]; first | exact hm | rfl) | (simp [sv_u_ne, sv_row_ne, sv_row_eq]; done) | (simp [sv_u_ne, sv_row_ne, sv_row_eq]; exact hm)) _ _ (by omega)) ?_
          refine sv_istore_n (i := 2) dX5_climbs_53 rfl (by decide) rfl ?_
          refine sv_goto (tgt := 7) dX5_climbs_54 (by decide) ?_
          have hsl : sp_slot m x ≠ -1 := by assumption
          obtain ⟨g0, g1, g2⟩ := sp_slot_in hsl
          have hbs : sp_bs m x = m (29 * sp_slot m x + 3) := by unfold sp_bs; rw [if_neg hsl]
          have hbl := hw.bs_lt hsl
          rw [hbs] at hbl
          have hnm := hw.num g0 g1
          have hcm := hw.cm
          have hqq := hb.2 hsl
          refine sv_wk (ih (q + 1) (m (29 * sp_slot m x + 3)) (by omega) (by omega) (fun k hk => by
              by_cases e : k = q
              · rw [e]; exact hxn
              · exact h2 k (by omega)) (by show _ = sp_bs m (sp_ch m n q); rw [← hx, hbs]) (by omega) (fun h => ⟨by omega, fun h3 => by
            have := hw.down hsl (by rw [hbs]; exact h3)
            rw [hbs] at this
            omega⟩)) (by simp [sv_sub, sv_ent, sv_lng]) ?_
          exact (by
              funext a b
              by_cases e1 : a = o + 4
              · subst e1
                simp [sv_u, sv_row]
                by_cases e2 : b = (q : Int)
                · subst e2
                  simp [← hx]
                  try (intro h9; omega)
                · have e3 : (0 ≤ b ∧ b < (q : Int) + 1) ↔ (0 ≤ b ∧ b < (q : Int)) := by omega
                  simp [e2, e3]
              · by_cases e2 : a = o
                · subst e2
                  simp [sv_u, sv_row]
                  try grind
                · simp [sv_u, sv_row, e1, e2])
        · refine sv_iconst dX5_climbs_43 ?_
          refine sv_goto (tgt := 53) dX5_climbs_44 (by decide) ?_
          refine sv_istore_n dX5_climbs_53 rfl (by decide) rfl ?_
          refine sv_goto (tgt := 7) dX5_climbs_54 (by decide) ?_
          have hbs : sp_bs m x = -1 := by unfold sp_bs; rw [if_pos (by assumption)]
          refine sv_wk (ih (q + 1) (-1) (by omega) (by omega) (fun k hk => by
              by_cases e : k = q
              · rw [e]; exact hxn
              · exact h2 k (by omega)) (by show -1 = sp_bs m (sp_ch m n q); rw [← hx, hbs]) (by omega) (fun h => absurd rfl h)) (by simp [sv_sub, sv_ent, sv_lng]) ?_
          exact (by
              funext a b
              by_cases e1 : a = o + 4
              · subst e1
                simp [sv_u, sv_row]
                by_cases e2 : b = (q : Int)
                · subst e2
                  simp [← hx]
                  try (intro h9; omega)
                · have e3 : (0 ≤ b ∧ b < (q : Int) + 1) ↔ (0 ≤ b ∧ b < (q : Int)) := by omega
                  simp [e2, e3]
              · by_cases e2 : a = o
                · subst e2
                  simp [sv_u, sv_row]
                  try grind
                · simp [sv_u, sv_row, e1, e2])
  refine sv_aload_n (i := 0) dX5_climbs_0 rfl rfl ?_
  refine sv_iconst dX5_climbs_1 ?_
  refine sv_putI (kz := 7) flX5_56 dX5_climbs_2 (Or.inl rfl) rfl rfl hsh.lt hsh.k (by first | omega | exact hin _ _ | decide | (simp [sv_u, sv_row]; omega) | (simp [sv_u, sv_row]; exact hin _ _) | exact hin1 _ _ | (simp [sv_u, sv_row]; exact hin1 _ _)) ?_
  refine sv_iload_n (i := 1) dX5_climbs_5 rfl rfl ?_
  refine sv_istore_n (i := 2) dX5_climbs_6 rfl (by decide) rfl ?_
  refine sv_wk (lp 23 0 n (by omega) (by omega) (fun k hk => by omega) rfl (by omega) (fun _ => ⟨by omega, fun h => by
    obtain ⟨g0, g1, g2⟩ := sp_slot_in h
    omega⟩)) (by simp [sv_sub, sv_ent, sv_lng]) ?_
  funext a b
  by_cases e2 : a = o
  · subst e2
    simp [sv_u, sv_row]
  · by_cases e1 : a = o + 4
    · subst e1
      have e3 : ¬ (0 ≤ b ∧ b < 0) := by omega
      simp [sv_u, sv_row, e3]
    · simp [sv_u, sv_row, e1, e2]
