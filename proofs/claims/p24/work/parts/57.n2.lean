set_option maxRecDepth 100000 in
set_option maxHeartbeats 4000000 in
theorem c_X1_linksOf {X : sv_X} {S : sv_S} {f : sv_F} {r : sv_R} {g : sv_G} {q : Nat} {kp : Int → Nat} {m : Int → Int} (hmo : sv_K1 S r q kp) (hmv : sv_V1 f q kp m) (hw : sp_wt m) (n : Int) (hn : 0 ≤ n ∧ n ≤ 2147483647) : sv_C X 2 MX1_linksOf 0 0 [sv_r q, sv_i n] S f r g (sv_qp (some (sv_i (sp_lk m n))) S f r g) := by
  refine sv_met (by decide) (by simp [lg_sl, sv_cv, va_rf, Value.category]) ?_
  refine sv_fr fun hin => ?_
  have lp : ∀ (k : Nat) (k2 : Nat), 99 - (k2 : Int) < (k : Int) → ((k2 : Int) ≤ 99) → (∀ j : Nat, j ≤ k2 → sp_ch m n j ≠ -1) → (sp_bs m (sp_ch m n k2) ≤ 98 - (k2 : Int)) → sv_T X (sv_rm 2 0 0) MX1_linksOf (sv_Zm X 0 0 (sv_qp (some (sv_i (sp_lk m n))) S f r g)) 0 0 11 [some (sv_r q), some (sv_i n), some (sv_i (1 + (k2 : Int))), some (sv_i (sp_bs m (sp_ch m n k2))), some (sv_i (k2 : Nat))] [] S (f) r g := by
    intro k
    induction k with
    | zero =>
      intro k2 hk h1 h2 h3
      exact absurd hk (by omega)
    | succ k ih =>
      intro k2 hk h1 h2 h3
      have hbi : sv_in (sp_bs m (sp_ch m n k2)) := by have := sp_bs_cm hw (x := sp_ch m n k2); omega
      refine sv_iload dX1_linksOf_11 rfl ?_
      refine sv_bipush dX1_linksOf_13 (by decide) ?_
      refine sv_icmp_ge (tgt := 38) dX1_linksOf_15 (by decide) (by omega) (by omega) (fun h_15 => ?_) (fun h_15 => ?_)
      · refine sv_iload_n (i := 2) dX1_linksOf_38 rfl rfl ?_
        refine sv_ireturn dX1_linksOf_39 rfl ?_
        have hb : sp_bs m (sp_ch m n k2) = -1 := by
          have := sp_bs_cm hw (x := sp_ch m n k2)
          omega
        have hall : ∀ j : Nat, j < k2 + 1 → sp_ch m n j ≠ -1 := fun j hj => h2 j (by omega)
        have hL := sp_ch_21 hw hall
        exact ⟨by rw [sp_lk_eq hL hall hb]; simp; omega, rfl, rfl, rfl, rfl⟩
      · refine sv_iload_n (i := 3) dX1_linksOf_18 rfl rfl ?_
        refine sv_iconst dX1_linksOf_19 ?_
        refine sv_icmp_eq (tgt := 38) dX1_linksOf_20 (by decide) hbi (by first | omega | exact hin _ _ | decide | (simp [sv_u, sv_row]; omega) | (simp [sv_u, sv_row]; exact hin _ _) | exact hin1 _ _ | (simp [sv_u, sv_row]; exact hin1 _ _)) (fun h_20 => ?_) (fun h_20 => ?_)
        · refine sv_iload_n (i := 2) dX1_linksOf_38 rfl rfl ?_
          refine sv_ireturn dX1_linksOf_39 rfl ?_
          have hb : sp_bs m (sp_ch m n k2) = -1 := by
            have := sp_bs_cm hw (x := sp_ch m n k2)
            omega
          have hall : ∀ j : Nat, j < k2 + 1 → sp_ch m n j ≠ -1 := fun j hj => h2 j (by omega)
          have hL := sp_ch_21 hw hall
          exact ⟨by rw [sp_lk_eq hL hall hb]; simp; omega, rfl, rfl, rfl, rfl⟩
        · refine sv_iinc dX1_linksOf_23 rfl (by decide) rfl ?_
          refine sv_aload_n (i := 0) dX1_linksOf_26 rfl rfl ?_
          refine sv_iload_n (i := 3) dX1_linksOf_27 rfl rfl ?_
          refine sv_vp0 (As := [_]) clX1_58 dX1_linksOf_28 ⟨_, rfl, rfl⟩ (by decide) rfl (Nat.le_of_ble_eq_true rfl) (by decide) (by decide) hmo.lt hmo.k (c_X1_baseOf hmo hmv hw.c _ hbi) ?_
          refine sv_istore_n (i := 3) dX1_linksOf_31 rfl (by decide) rfl ?_
          refine sv_iinc dX1_linksOf_32 rfl (by decide) rfl ?_
          refine sv_goto (tgt := 11) dX1_linksOf_35 (by decide) ?_
          have hnx : sp_ch m n (k2 + 1) ≠ -1 := by assumption
          obtain ⟨-, z1, z2⟩ := sp_bs_lt hw (x := sp_ch m n k2) hnx
          refine sv_cast (ih (k2 + 1) (by omega) (by omega) ?_ ?_) rfl rfl rfl ?_ rfl rfl
          · intro j hj
            by_cases e : j = k2 + 1
            · subst e; exact hnx
            · exact h2 j (by omega)
          · have := sp_bs_cm hw (x := sp_ch m n (k2 + 1))
            by_cases e : sp_bs m (sp_ch m n (k2 + 1)) = -1
            · omega
            · obtain ⟨-, y1, y2⟩ := sp_bs_lt hw e
              have y3 : sp_ch m n (k2 + 1) = sp_bs m (sp_ch m n k2) := rfl
              omega
          · show [_, _, _, _, _] = [_, _, _, _, _]
            simp [sp_ch]; try omega
  refine sv_iconst dX1_linksOf_0 ?_
  refine sv_istore_n (i := 2) dX1_linksOf_1 rfl (by decide) rfl ?_
  refine sv_aload_n (i := 0) dX1_linksOf_2 rfl rfl ?_
  refine sv_iload_n (i := 1) dX1_linksOf_3 rfl rfl ?_
  refine sv_vp0 (As := [_]) clX1_58 dX1_linksOf_4 ⟨_, rfl, rfl⟩ (by decide) rfl (Nat.le_of_ble_eq_true rfl) (by decide) (by decide) hmo.lt hmo.k (c_X1_baseOf hmo hmv hw.c _ (by omega)) ?_
  refine sv_istore_n (i := 3) dX1_linksOf_7 rfl (by decide) rfl ?_
  refine sv_iconst dX1_linksOf_8 ?_
  refine sv_istore dX1_linksOf_9 (by decide) rfl ?_
  have hz : sp_ch m n 0 = n := rfl
  refine sv_cast (lp 100 0 (by omega) (by omega) ?_ ?_) rfl rfl rfl rfl rfl rfl
  · intro j hj
    obtain rfl : j = 0 := by omega
    omega
  · have := sp_bs_cm hw (x := sp_ch m n 0)
    omega
theorem sp_lk_bd {m : Int → Int} (hw : sp_wt m) {n : Int} (hn : 0 ≤ n) : 1 ≤ sp_lk m n ∧ sp_lk m n ≤ 21 := by
  have key : ∀ L : Nat, (∃ k : Nat, k ≤ L ∧ sp_ch m n k = -1) ∨ ∀ k : Nat, k ≤ L → sp_ch m n k ≠ -1 := by
    intro L
    by_cases h : ∃ k : Nat, k ≤ L ∧ sp_ch m n k = -1
    · exact Or.inl h
    · exact Or.inr fun k hk q => h ⟨k, hk, q⟩
  have hex : ∃ k : Nat, sp_ch m n k = -1 := by
    rcases key 21 with ⟨k, -, h⟩ | h
    · exact ⟨k, h⟩
    · have := sp_ch_21 hw (n := n) (L := 22) fun k hk => h k (by omega)
      omega
  have hmin : ∀ L : Nat, (∃ k : Nat, k ≤ L ∧ sp_ch m n k = -1) → ∃ k : Nat, sp_ch m n k = -1 ∧ ∀ j : Nat, j < k → sp_ch m n j ≠ -1 := by
    intro L
    induction L with
    | zero => rintro ⟨k, hk, h⟩; exact ⟨k, h, fun j hj => by omega⟩
    | succ L ih =>
      rintro ⟨k, hk, h⟩
      rcases key L with h2 | h2
      · exact ih h2
      · exact ⟨k, h, fun j hj => h2 j (by omega)⟩
  obtain ⟨k0, hk0⟩ := hex
  obtain ⟨L, hL, hall⟩ := hmin k0 ⟨k0, Nat.le_refl _, hk0⟩
  have h21 := sp_ch_21 hw hall
  rw [sp_lk_eq h21 hall hL]
  have : L ≠ 0 := by
    intro e; subst e
    have : sp_ch m n 0 = n := rfl
    omega
  omega
theorem sp_mx_bd {q : Int → Int} {b : Int} : ∀ {k : Nat}, 0 ≤ b → (∀ j : Int, 0 ≤ j → j < k → q j ≤ b) → 0 ≤ sp_mx q k ∧ sp_mx q k ≤ b := by
  intro k
  induction k with
  | zero => intro hb _; unfold sp_mx; omega
  | succ k ih =>
    intro hb h
    have a := ih hb fun j j0 j1 => h j j0 (by omega)
    have c := h k (by omega) (by omega)
    unfold sp_mx
    omega
set_option maxRecDepth 100000 in
set_option maxHeartbeats 4000000 in
theorem c_X1_longestChain {X : sv_X} {S : sv_S} {f : sv_F} {r : sv_R} {g : sv_G} {q : Nat} {kp : Int → Nat} {m : Int → Int} (hmo : sv_K1 S r q kp) (hmv : sv_V1 f q kp m) (hw : sp_wt m) : sv_C X 3 MX1_longestChain 0 0 [sv_r q] S f r g (sv_qp (some (sv_i (sp_lon m))) S f r g) := by
  refine sv_met (by decide) (by simp [lg_sl, sv_cv, va_rf, Value.category]) ?_
  refine sv_fr fun hin => ?_
  have lp : ∀ (k : Nat) (s : Nat), m 580 - (s : Int) < (k : Int) → ((s : Int) ≤ m 580) → sv_T X (sv_rm 3 0 0) MX1_longestChain (sv_Zm X 0 0 (sv_qp (some (sv_i (sp_lon m))) S f r g)) 0 0 4 [some (sv_r q), some (sv_i (sp_mx (fun s => sp_lk m (m (29 * s))) s)), some (sv_i (s : Nat))] [] S (f) r g := by
    intro k
    induction k with
    | zero =>
      intro s hk h1
      exact absurd hk (by omega)
    | succ k ih =>
      intro s hk h1
      refine sv_iload_n (i := 2) dX1_longestChain_4 rfl rfl ?_
      refine sv_aload_n (i := 0) dX1_longestChain_5 rfl rfl ?_
      refine sv_getI (kz := 3) flX1_21 dX1_longestChain_6 rfl rfl hmo.lt hmo.k ?_
      rw [hmv.size]
      have hcc := hw.c
      refine sv_icmp_ge (tgt := 36) dX1_longestChain_9 (by decide) (by omega) (by omega) (fun h_9 => ?_) (fun h_9 => ?_)
      · refine sv_iload_n (i := 1) dX1_longestChain_36 rfl rfl ?_
        refine sv_ireturn dX1_longestChain_37 rfl ?_
        exact ⟨by unfold sp_lon; rw [show (m 580).toNat = s by omega], rfl, rfl, rfl, rfl⟩
      · refine sv_iload_n (i := 1) dX1_longestChain_12 rfl rfl ?_
        refine sv_aload_n (i := 0) dX1_longestChain_13 rfl rfl ?_
        refine sv_aload_n (i := 0) dX1_longestChain_14 rfl rfl ?_
        refine sv_getR (kz := 6) flX1_33 dX1_longestChain_15 rfl rfl hmo.lt hmo.k hmo.r3 ?_
        refine sv_iload_n (i := 2) dX1_longestChain_18 rfl rfl ?_
        have hk := hmo.o (p := (s : Int)) (by omega) (by omega)
        have hkv := hmv.o (s := (s : Int)) (by omega) (by omega)
        have hnm := hw.num (s := (s : Int)) (by omega) (by omega)
        have hcm := hw.cm
        refine sv_aald (t := 0) (n := 20) dX1_longestChain_19 hmo.l3 (by decide) hmo.s3 (by omega) (hmo.e (p := (s : Int)) (by omega) (by omega)) ?_
        refine sv_getI (kz := 0) flX1_48 dX1_longestChain_20 rfl rfl hk.lt hk.k ?_
        rw [hkv.num]
        refine sv_vp0 (As := [_]) clX1_61 dX1_longestChain_23 ⟨_, rfl, rfl⟩ (by decide) rfl (Nat.le_of_ble_eq_true rfl) (by decide) (by decide) hmo.lt hmo.k (c_X1_linksOf hmo hmv hw _ (by omega)) ?_
        have hlr := sp_lk_bd hw (n := m (29 * (s : Int))) (by omega)
        have hmr := sp_mx_bd (q := fun s => sp_lk m (m (29 * s))) (b := 21) (k := s) (by omega) (fun j j0 j1 => (sp_lk_bd hw (by have := hw.num j0 (by omega : j < m 580); omega)).2)
        refine sv_max (List.mem_of_getElem? (i := 620) (by decide +kernel)) sv_maxw (Nat.le_of_ble_eq_true rfl) (by decide) (by decide) (by omega) (by omega) dX1_longestChain_26 ?_
        refine sv_istore_n (i := 1) dX1_longestChain_29 rfl (by decide) rfl ?_
        refine sv_iinc dX1_longestChain_30 rfl (by decide) rfl ?_
        refine sv_goto (tgt := 4) dX1_longestChain_33 (by decide) ?_
        exact sv_cast (ih (s + 1) (by omega) (by omega)) rfl rfl rfl rfl rfl rfl
  refine sv_iconst dX1_longestChain_0 ?_
  refine sv_istore_n (i := 1) dX1_longestChain_1 rfl (by decide) rfl ?_
  refine sv_iconst dX1_longestChain_2 ?_
  refine sv_istore_n (i := 2) dX1_longestChain_3 rfl (by decide) rfl ?_
  have hcc := hw.c
  exact lp (m 580 + 1).toNat 0 (by omega) (by omega)
