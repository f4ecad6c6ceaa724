set_option maxRecDepth 100000 in
set_option maxHeartbeats 4000000 in
theorem c_X5_fork {X : sv_X} {S : sv_S} {f : sv_F} {r : sv_R} {g : sv_G} {o : Nat} {m : Int → Int} (hsh : sv_M5 S r o) (hm : f (o + 1) = m) (hw : sp_wt m) (k p : Int) (hk : sv_in k) (hp : sv_in p) : sv_C X 3 MX5_fork 0 0 [sv_r o, sv_i k, sv_i p] S f r g (sv_qi (fun a f' => ((sp_slot m k = -1 ∨ sp_slot m p = -1) ∧ a = -2 ∨ sp_slot m k ≠ -1 ∧ sp_slot m p ≠ -1 ∧ sp_fk m k p a) ∧ sp_sq o f f') S r g) := by
  refine sv_met (by decide) (by simp [lg_sl, sv_cv, va_rf, Value.category]) ?_
  refine sv_fr fun hin => ?_
  have lp : ∀ (f0 : sv_F) (L : Nat), f0 o 7 = L → (∀ j : Nat, j < L → f0 (o + 4) j = sp_ch m p j) → sp_sq o f f0 → sp_lk m p = L → L ≤ 21 → ∀ (q : Nat) (d : Nat) (x : Int), x + 2 < (q : Int) → (x = sp_ch m k d) → (∀ j : Nat, j < d → sp_ch m k j ≠ -1 ∧ ¬ sp_inc m p (sp_ch m k j)) → (-1 ≤ x ∧ x ≤ 2147483647) → (sp_slot m k ≠ -1) → (sp_slot m p ≠ -1) → sv_T X (sv_rm 3 0 0) MX5_fork (sv_Zm X 0 0 (sv_qi (fun a f' => ((sp_slot m k = -1 ∨ sp_slot m p = -1) ∧ a = -2 ∨ sp_slot m k ≠ -1 ∧ sp_slot m p ≠ -1 ∧ sp_fk m k p a) ∧ sp_sq o f f') S r g)) 0 0 28 [some (sv_r o), some (sv_i k), some (sv_i p), some (sv_i x), none] [] S (f0) r g := by
    intro f0 L hL7 hch hsq hlk hL21 q
    have hm1 : f0 (o + 1) = m := hsq.m.trans hm
    induction q with
    | zero =>
      intro d x hk2 hx hd hxi hsk hsp
      exact absurd hk2 (by omega)
    | succ q ih =>
      intro d x hk2 hx hd hxi hsk hsp
      refine sv_iload_n (i := 3) dX5_fork_28 rfl rfl ?_
      refine sv_iconst dX5_fork_29 ?_
      refine sv_icmp_eq (tgt := 69) dX5_fork_30 (by decide) (by first | omega | exact hin _ _ | decide | (simp [sv_u, sv_row]; omega) | (simp [sv_u, sv_row]; exact hin _ _) | exact hin1 _ _ | (simp [sv_u, sv_row]; exact hin1 _ _)) (by first | omega | exact hin _ _ | decide | (simp [sv_u, sv_row]; omega) | (simp [sv_u, sv_row]; exact hin _ _) | exact hin1 _ _ | (simp [sv_u, sv_row]; exact hin1 _ _)) (fun h_30 => ?_) (fun h_30 => ?_)
      · refine sv_iload_n (i := 3) dX5_fork_69 rfl rfl ?_
        refine sv_ireturn dX5_fork_70 rfl ?_
        first
          | exact ⟨_, rfl, rfl, rfl, rfl, Or.inr ⟨hsk, hsp, d, hx, hd, Or.inl (by assumption)⟩, hsq⟩
          | exact ⟨_, rfl, rfl, rfl, rfl, Or.inr ⟨hsk, hsp, d, hx, hd, Or.inr ((sp_any_inc hlk hch).mp (by assumption))⟩, hsq⟩
      · refine sv_aload_n (i := 0) dX5_fork_33 rfl rfl ?_
        refine sv_iload_n (i := 3) dX5_fork_34 rfl rfl ?_
        refine sv_vp0 (As := [_]) clX5_185 dX5_fork_35 ⟨_, rfl, rfl⟩ (by decide) rfl (Nat.le_of_ble_eq_true rfl) (by decide) (by decide) hsh.lt hsh.k (c_X5_isInChain (L := (L : Int)) (c := f0 (o + 4)) hsh hL7 rfl (by omega) _ (by omega)) ?_
        refine sv_bif_ne (tgt := 69) dX5_fork_38 (by decide) (fun h_38 => ?_) (fun h_38 => ?_)
        · refine sv_iload_n (i := 3) dX5_fork_69 rfl rfl ?_
          refine sv_ireturn dX5_fork_70 rfl ?_
          first
            | exact ⟨_, rfl, rfl, rfl, rfl, Or.inr ⟨hsk, hsp, d, hx, hd, Or.inl (by assumption)⟩, hsq⟩
            | exact ⟨_, rfl, rfl, rfl, rfl, Or.inr ⟨hsk, hsp, d, hx, hd, Or.inr ((sp_any_inc hlk hch).mp (by assumption))⟩, hsq⟩
        · have hni : ¬ sp_inc m p x := fun q => h_38 ((sp_any_inc hlk hch).mpr q)
          have hst := sp_slot_spec m x
          have hcc := hw.c
          refine sv_aload_n (i := 0) dX5_fork_41 rfl rfl ?_
          refine sv_iload_n (i := 3) dX5_fork_42 rfl rfl ?_
          refine sv_vp0 (As := [_]) clX5_59 dX5_fork_43 ⟨_, rfl, rfl⟩ (by decide) rfl (Nat.le_of_ble_eq_true rfl) (by decide) (by decide) hsh.lt hsh.k (c_X5_slotOf hsh hm1 _ (by omega) hw.c) ?_
          refine sv_istore dX5_fork_46 (by decide) rfl ?_
          refine sv_iload dX5_fork_48 rfl ?_
          refine sv_iconst dX5_fork_50 ?_
          refine sv_icmp_ne (tgt := 58) dX5_fork_51 (by decide) (by first | omega | exact hin _ _ | decide | (simp [sv_u, sv_row]; omega) | (simp [sv_u, sv_row]; exact hin _ _) | exact hin1 _ _ | (simp [sv_u, sv_row]; exact hin1 _ _)) (by first | omega | exact hin _ _ | decide | (simp [sv_u, sv_row]; omega) | (simp [sv_u, sv_row]; exact hin _ _) | exact hin1 _ _ | (simp [sv_u, sv_row]; exact hin1 _ _)) (fun h_51 => ?_) (fun h_51 => ?_)
          · refine sv_aload_n (i := 0) dX5_fork_58 rfl rfl ?_
            refine sv_iload dX5_fork_59 rfl ?_
            refine sv_iconst dX5_fork_61 ?_
            refine sv_vp0 (As := [_, _]) clX5_38 dX5_fork_62 ⟨_, rfl, rfl⟩ (by decide) rfl (Nat.le_of_ble_eq_true rfl) (by decide) (by decide) hsh.lt hsh.k (c_X5_of hsh hm1 _ _ (by omega)) ?_
            refine sv_istore_n (i := 3) dX5_fork_65 rfl (by decide) rfl ?_
            refine sv_goto (tgt := 28) dX5_fork_66 (by decide) ?_
            first
              | exact sv_wk (ih (d + 1) (-1) (by omega) (by show -1 = sp_bs m (sp_ch m k d); rw [← hx, sp_bs, if_pos (by assumption)]) (fun j hj => by
                  by_cases e : j = d
                  · subst e
                    exact ⟨by rw [← hx]; exact h_30, by rw [← hx]; exact hni⟩
                  · exact hd j (by omega)) (by omega) hsk hsp) (by simp [sv_sub, sv_ent, sv_lng]) rfl
              | (obtain ⟨u0, u1, u2⟩ := sp_slot_in (m := m) (n := x) (by assumption)
                 have hbl := hw.bs_lt (m := m) (n := x) (by assumption)
                 have hbe : sp_bs m x = m (29 * sp_slot m x + 3) := by unfold sp_bs; rw [if_neg (by assumption)]
                 rw [hbe] at hbl
                 have hnx := hw.num u0 u1
                 have hcm := hw.cm
                 exact sv_wk (ih (d + 1) (m (29 * sp_slot m x + 3)) (by omega) (by show _ = sp_bs m (sp_ch m k d); rw [← hx, hbe]) (fun j hj => by
                   by_cases e : j = d
                   · subst e
                     exact ⟨by rw [← hx]; exact h_30, by rw [← hx]; exact hni⟩
                   · exact hd j (by omega)) (by omega) hsk hsp) (by simp [sv_sub, sv_ent, sv_lng]) rfl)
          · refine sv_iconst dX5_fork_54 ?_
            refine sv_goto (tgt := 65) dX5_fork_55 (by decide) ?_
            refine sv_istore_n (i := 3) dX5_fork_65 rfl (by decide) rfl ?_
            refine sv_goto (tgt := 28) dX5_fork_66 (by decide) ?_
            first
              | exact sv_wk (ih (d + 1) (-1) (by omega) (by show -1 = sp_bs m (sp_ch m k d); rw [← hx, sp_bs, if_pos (by assumption)]) (fun j hj => by
                  by_cases e : j = d
                  · subst e
                    exact ⟨by rw [← hx]; exact h_30, by rw [← hx]; exact hni⟩
                  · exact hd j (by omega)) (by omega) hsk hsp) (by simp [sv_sub, sv_ent, sv_lng]) rfl
              | (obtain ⟨u0, u1, u2⟩ := sp_slot_in (m := m) (n := x) (by assumption)
                 have hbl := hw.bs_lt (m := m) (n := x) (by assumption)
                 have hbe : sp_bs m x = m (29 * sp_slot m x + 3) := by unfold sp_bs; rw [if_neg (by assumption)]
                 rw [hbe] at hbl
                 have hnx := hw.num u0 u1
                 have hcm := hw.cm
                 exact sv_wk (ih (d + 1) (m (29 * sp_slot m x + 3)) (by omega) (by show _ = sp_bs m (sp_ch m k d); rw [← hx, hbe]) (fun j hj => by
                   by_cases e : j = d
                   · subst e
                     exact ⟨by rw [← hx]; exact h_30, by rw [← hx]; exact hni⟩
                   · exact hd j (by omega)) (by omega) hsk hsp) (by simp [sv_sub, sv_ent, sv_lng]) rfl)
  refine sv_aload_n (i := 0) dX5_fork_0 rfl rfl ?_
  refine sv_iload_n (i := 1) dX5_fork_1 rfl rfl ?_
  refine sv_vp0 (As := [_]) clX5_59 dX5_fork_2 ⟨_, rfl, rfl⟩ (by decide) rfl (Nat.le_of_ble_eq_true rfl) (by decide) (by decide) hsh.lt hsh.k (c_X5_slotOf hsh (by first | exact hm | exact hm1 | exact hm2 | rfl | (simp only [sv_u_ne, sv_row_ne, sv_row_eq, ne_eq, Nat.add_left_cancel_iff, Nat.reduceEqDiff, not_false_eq_true, Nat.add_eq_left, reduceCtorEq, OfNat.ofNat_ne_zero, OfNat.one_ne_ofNat, OfNat.ofNat_ne_one, one_ne_zero, Nat.succ_ne_self]; first | exact hm | rfl) | (simp [sv_u_ne, sv_row_ne, sv_row_eq]; done) | (simp [sv_u_ne, sv_row_ne, sv_row_eq]; exact hm)) _ (by omega) hw.c) ?_
  have hst := sp_slot_spec m k
  have hcc := hw.c
  refine sv_iconst dX5_fork_5 ?_
  refine sv_icmp_eq (tgt := 18) dX5_fork_6 (by decide) (by first | omega | exact hin _ _ | decide | (simp [sv_u, sv_row]; omega) | (simp [sv_u, sv_row]; exact hin _ _) | exact hin1 _ _ | (simp [sv_u, sv_row]; exact hin1 _ _)) (by first | omega | exact hin _ _ | decide | (simp [sv_u, sv_row]; omega) | (simp [sv_u, sv_row]; exact hin _ _) | exact hin1 _ _ | (simp [sv_u, sv_row]; exact hin1 _ _)) (fun h_6 => ?_) (fun h_6 => ?_)
  · refine sv_bipush dX5_fork_18 (by decide) ?_
    refine sv_ireturn dX5_fork_20 rfl ?_
    exact ⟨_, rfl, rfl, rfl, rfl, Or.inl ⟨by omega, rfl⟩, sp_sq.rf⟩
  · refine sv_aload_n (i := 0) dX5_fork_9 rfl rfl ?_
    refine sv_iload_n (i := 2) dX5_fork_10 rfl rfl ?_
    refine sv_vp0 (As := [_]) clX5_59 dX5_fork_11 ⟨_, rfl, rfl⟩ (by decide) rfl (Nat.le_of_ble_eq_true rfl) (by decide) (by decide) hsh.lt hsh.k (c_X5_slotOf hsh (by first | exact hm | exact hm1 | exact hm2 | rfl | (simp only [sv_u_ne, sv_row_ne, sv_row_eq, ne_eq, Nat.add_left_cancel_iff, Nat.reduceEqDiff, not_false_eq_true, Nat.add_eq_left, reduceCtorEq, OfNat.ofNat_ne_zero, OfNat.one_ne_ofNat, OfNat.ofNat_ne_one, one_ne_zero, Nat.succ_ne_self]; first | exact hm | rfl) | (simp [sv_u_ne, sv_row_ne, sv_row_eq]; done) | (simp [sv_u_ne, sv_row_ne, sv_row_eq]; exact hm)) _ (by omega) hw.c) ?_
    have hsp := sp_slot_spec m p
    refine sv_iconst dX5_fork_14 ?_
    refine sv_icmp_ne (tgt := 21) dX5_fork_15 (by decide) (by first | omega | exact hin _ _ | decide | (simp [sv_u, sv_row]; omega) | (simp [sv_u, sv_row]; exact hin _ _) | exact hin1 _ _ | (simp [sv_u, sv_row]; exact hin1 _ _)) (by first | omega | exact hin _ _ | decide | (simp [sv_u, sv_row]; omega) | (simp [sv_u, sv_row]; exact hin _ _) | exact hin1 _ _ | (simp [sv_u, sv_row]; exact hin1 _ _)) (fun h_15 => ?_) (fun h_15 => ?_)
    · obtain ⟨t0, t1, t2⟩ := sp_slot_in (m := m) (n := p) (by assumption)
      have hnp := hw.num t0 t1
      have hcm := hw.cm
      obtain ⟨s0, s1, s2⟩ := sp_slot_in (m := m) (n := k) (by assumption)
      have hnk := hw.num s0 s1
      refine sv_aload_n (i := 0) dX5_fork_21 rfl rfl ?_
      refine sv_iload_n (i := 2) dX5_fork_22 rfl rfl ?_
      refine sv_vv0 (As := [_]) clX5_62 dX5_fork_23 ⟨_, rfl, rfl⟩ (by decide) rfl (Nat.le_of_ble_eq_true rfl) (by decide) (by decide) hsh.lt hsh.k (c_X5_climbs hsh (by first | exact hm | exact hm1 | exact hm2 | rfl | (simp only [sv_u_ne, sv_row_ne, sv_row_eq, ne_eq, Nat.add_left_cancel_iff, Nat.reduceEqDiff, not_false_eq_true, Nat.add_eq_left, reduceCtorEq, OfNat.ofNat_ne_zero, OfNat.one_ne_ofNat, OfNat.ofNat_ne_one, one_ne_zero, Nat.succ_ne_self]; first | exact hm | rfl) | (simp [sv_u_ne, sv_row_ne, sv_row_eq]; done) | (simp [sv_u_ne, sv_row_ne, sv_row_eq]; exact hm)) hw _ (by omega)) (fun f0 hf0 => ?_)
      obtain ⟨L, hL1, hL2, hL3, hL4, hf0⟩ := hf0
      refine sv_iload_n (i := 1) dX5_fork_26 rfl rfl ?_
      refine sv_istore_n (i := 3) dX5_fork_27 rfl (by decide) rfl ?_
      have e1 : f0 o 7 = L := by rw [hf0]; simp [sv_u]
      have e2 : ∀ j : Nat, j < L → f0 (o + 4) j = sp_ch m p j := fun j hj => by
        rw [hf0]
        simp [sv_u, sv_row]
        omega
      have e3 : sp_sq o f f0 := by
        subst hf0
        exact ⟨fun x a1 a2 a3 a4 a5 a6 a7 => by rw [sv_u_ne a1, sv_row_ne a3], by simp [sv_u, sv_row], by simp [sv_u, sv_row]⟩
      exact sv_wk (lp f0 L e1 e2 e3 (sp_lk_eq hL2 hL3 hL4) hL2 (k + 3).toNat 0 k (by omega) rfl (fun j hj => by omega) (by omega) (by assumption) (by assumption)) (by simp [sv_sub, sv_ent, sv_lng]) rfl
    · refine sv_bipush dX5_fork_18 (by decide) ?_
      refine sv_ireturn dX5_fork_20 rfl ?_
      exact ⟨_, rfl, rfl, rfl, rfl, Or.inl ⟨by omega, rfl⟩, sp_sq.rf⟩
set_option maxRecDepth 100000 in
set_option maxHeartbeats 4000000 in
theorem c_X5_counts {X : sv_X} {S : sv_S} {f : sv_F} {r : sv_R} {g : sv_G} {o : Nat} {m : Int → Int} (hsh : sv_M5 S r o) (hm : f (o + 1) = m) (hw : sp_wt m) (w : Int) (hw45 : w = 4 ∨ w = 5) : sv_C X 4 MX5_counts 0 0 [sv_r o, sv_i w] S f r g (sv_qi (fun a f' => a = (if w = 4 then sp_who m else sp_unr m) ∧ sp_sq o f f') S r g) := by
  refine sv_met (by decide) (by simp [lg_sl, sv_cv, va_rf, Value.category]) ?_
  refine sv_fr fun hin => ?_
  have hcc := hw.c
  have lp : ∀ (k : Nat) (d : Int) (i : Int) (f1 : sv_F), m 580 - i < (k : Int) → (0 ≤ i ∧ i ≤ m 580) → (d = sp_cnt (fun s => if w = 4 then (if m (29 * s + 3) = -1 then 1 else 0) else (if sp_R m (m (29 * s)) = -1 then 0 else 1)) i.toNat) → (sp_sq o f f1) → sv_T X (sv_rm 4 0 0) MX5_counts (sv_Zm X 0 0 (sv_qi (fun a f' => a = (if w = 4 then sp_who m else sp_unr m) ∧ sp_sq o f f') S r g)) 0 0 4 [some (sv_r o), some (sv_i w), some (sv_i d), some (sv_i i)] [] S (f1) r g := by
    intro k
    induction k with
    | zero =>
      intro d i f1 hk h1 hd hsq
      exact absurd hk (by omega)
    | succ k ih =>
      intro d i f1 hk h1 hd hsq
      refine sv_fr fun hin1 => ?_
      have hm1 : f1 (o + 1) = m := hsq.m.trans hm
      refine sv_iload_n (i := 3) dX5_counts_4 rfl rfl ?_
      refine sv_aload_n (i := 0) dX5_counts_5 rfl rfl ?_
      refine sv_getR (kz := 0) flX5_7 dX5_counts_6 rfl rfl hsh.lt hsh.k hsh.r1 ?_
      refine sv_sipush dX5_counts_9 (by decide) ?_
      refine sv_iald dX5_counts_12 hsh.l1 hsh.s1 (by omega) ?_
      rw [hm1]
      refine sv_icmp_ge (tgt := 61) dX5_counts_13 (by decide) (by first | omega | exact hin _ _ | decide | (simp [sv_u, sv_row]; omega) | (simp [sv_u, sv_row]; exact hin _ _) | exact hin1 _ _ | (simp [sv_u, sv_row]; exact hin1 _ _)) (by first | omega | exact hin _ _ | decide | (simp [sv_u, sv_row]; omega) | (simp [sv_u, sv_row]; exact hin _ _) | exact hin1 _ _ | (simp [sv_u, sv_row]; exact hin1 _ _)) (fun h_13 => ?_) (fun h_13 => ?_)
      · refine sv_iload_n (i := 2) dX5_counts_61 rfl rfl ?_
        refine sv_ireturn dX5_counts_62 rfl ?_
        refine ⟨_, rfl, rfl, rfl, rfl, ?_, hsq⟩
        rw [hd, show i = m 580 by omega]
        rcases hw45 with h | h <;> subst h <;> simp [sp_who, sp_unr]
      · refine sv_iload_n (i := 2) dX5_counts_16 rfl rfl ?_
        refine sv_iload_n (i := 1) dX5_counts_17 rfl rfl ?_
        refine sv_iconst dX5_counts_18 ?_
        refine sv_icmp_ne (tgt := 30) dX5_counts_19 (by decide) (by first | omega | exact hin _ _ | decide | (simp [sv_u, sv_row]; omega) | (simp [sv_u, sv_row]; exact hin _ _) | exact hin1 _ _ | (simp [sv_u, sv_row]; exact hin1 _ _)) (by first | omega | exact hin _ _ | decide | (simp [sv_u, sv_row]; omega) | (simp [sv_u, sv_row]; exact hin _ _) | exact hin1 _ _ | (simp [sv_u, sv_row]; exact hin1 _ _)) (fun h_19 => ?_) (fun h_19 => ?_)
        · refine sv_iload_n (i := 1) dX5_counts_30 rfl rfl ?_
          refine sv_iconst dX5_counts_31 ?_
          refine sv_icmp_ne (tgt := 52) dX5_counts_32 (by decide) (by first | omega | exact hin _ _ | decide | (simp [sv_u, sv_row]; omega) | (simp [sv_u, sv_row]; exact hin _ _) | exact hin1 _ _ | (simp [sv_u, sv_row]; exact hin1 _ _)) (by first | omega | exact hin _ _ | decide | (simp [sv_u, sv_row]; omega) | (simp [sv_u, sv_row]; exact hin _ _) | exact hin1 _ _ | (simp [sv_u, sv_row]; exact hin1 _ _)) (fun h_32 => ?_) (fun h_32 => ?_)
          · refine sv_iconst dX5_counts_52 ?_
            refine sv_iadd dX5_counts_53 ?_
            refine sv_istore_n (i := 2) dX5_counts_54 rfl (by decide) rfl ?_
            refine sv_iinc dX5_counts_55 rfl (by decide) rfl ?_
            refine sv_goto (tgt := 4) dX5_counts_58 (by decide) ?_
            first
              | (exfalso; omega)
              | exact ih _ _ f1 (by omega) (by omega) (by rw [sp_cnt_s (by omega), hd]; simp [*]; try omega) hsq
              | exact ih _ _ f2 (by omega) (by omega) (by rw [sp_cnt_s (by omega), hd]; have h5 : ¬ w = 4 := by omega
                                                          simp [h5, h_45]; try omega) (hsq.trans hf2.sq)
          · refine sv_aload_n (i := 0) dX5_counts_35 rfl rfl ?_
            refine sv_aload_n (i := 0) dX5_counts_36 rfl rfl ?_
            refine sv_iload_n (i := 3) dX5_counts_37 rfl rfl ?_
            refine sv_iconst dX5_counts_38 ?_
            refine sv_vp0 (As := [_, _]) clX5_38 dX5_counts_39 ⟨_, rfl, rfl⟩ (by decide) rfl (Nat.le_of_ble_eq_true rfl) (by decide) (by decide) hsh.lt hsh.k (c_X5_of hsh hm1 _ _ (by omega)) ?_
            rw [show m (29 * i + 0) = m (29 * i) by rw [show 29 * i + 0 = 29 * i by omega]]
            have hnm := hw.num h1.1 (by omega : i < m 580)
            have hcm := hw.cm
            refine sv_vi0 (As := [_]) clX5_152 dX5_counts_42 ⟨_, rfl, rfl⟩ (by decide) rfl (Nat.le_of_ble_eq_true rfl) (by decide) (by decide) hsh.lt hsh.k (c_X5_reads hsh hm1 hw _ (by omega)) (fun a f2 hf2 => ?_)
            obtain ⟨ha2, hf2⟩ := hf2
            subst ha2
            refine sv_bif_ne (tgt := 52) dX5_counts_45 (by decide) (fun h_45 => ?_) (fun h_45 => ?_)
            · refine sv_iconst dX5_counts_52 ?_
              refine sv_iadd dX5_counts_53 ?_
              refine sv_istore_n (i := 2) dX5_counts_54 rfl (by decide) rfl ?_
              refine sv_iinc dX5_counts_55 rfl (by decide) rfl ?_
              refine sv_goto (tgt := 4) dX5_counts_58 (by decide) ?_
              first
                | (exfalso; omega)
                | exact ih _ _ f1 (by omega) (by omega) (by rw [sp_cnt_s (by omega), hd]; simp [*]; try omega) hsq
                | exact ih _ _ f2 (by omega) (by omega) (by rw [sp_cnt_s (by omega), hd]; have h5 : ¬ w = 4 := by omega
                                                            simp [h5, h_45]; try omega) (hsq.trans hf2.sq)
            · refine sv_iconst dX5_counts_48 ?_
              refine sv_goto (tgt := 53) dX5_counts_49 (by decide) ?_
              refine sv_iadd dX5_counts_53 ?_
              refine sv_istore_n (i := 2) dX5_counts_54 rfl (by decide) rfl ?_
              refine sv_iinc dX5_counts_55 rfl (by decide) rfl ?_
              refine sv_goto (tgt := 4) dX5_counts_58 (by decide) ?_
              first
                | (exfalso; omega)
                | exact ih _ _ f1 (by omega) (by omega) (by rw [sp_cnt_s (by omega), hd]; simp [*]; try omega) hsq
                | exact ih _ _ f2 (by omega) (by omega) (by rw [sp_cnt_s (by omega), hd]; have h5 : ¬ w = 4 := by omega
                                                            simp [h5, h_45]; try omega) (hsq.trans hf2.sq)
        · refine sv_aload_n (i := 0) dX5_counts_22 rfl rfl ?_
          refine sv_iload_n (i := 3) dX5_counts_23 rfl rfl ?_
          refine sv_vp0 (As := [_]) clX5_66 dX5_counts_24 ⟨_, rfl, rfl⟩ (by decide) rfl (Nat.le_of_ble_eq_true rfl) (by decide) (by decide) hsh.lt hsh.k (c_X5_isWhole hsh hm1 _ (by omega)) ?_
          refine sv_bif_ne (tgt := 48) dX5_counts_27 (by decide) (fun h_27 => ?_) (fun h_27 => ?_)
          · refine sv_iconst dX5_counts_48 ?_
            refine sv_goto (tgt := 53) dX5_counts_49 (by decide) ?_
            refine sv_iadd dX5_counts_53 ?_
            refine sv_istore_n (i := 2) dX5_counts_54 rfl (by decide) rfl ?_
            refine sv_iinc dX5_counts_55 rfl (by decide) rfl ?_
            refine sv_goto (tgt := 4) dX5_counts_58 (by decide) ?_
            first
              | (exfalso; omega)
              | exact ih _ _ f1 (by omega) (by omega) (by rw [sp_cnt_s (by omega), hd]; simp [*]; try omega) hsq
              | exact ih _ _ f2 (by omega) (by omega) (by rw [sp_cnt_s (by omega), hd]; have h5 : ¬ w = 4 := by omega
                                                          simp [h5, h_45]; try omega) (hsq.trans hf2.sq)
          · refine sv_iload_n (i := 1) dX5_counts_30 rfl rfl ?_
            refine sv_iconst dX5_counts_31 ?_
            refine sv_icmp_ne (tgt := 52) dX5_counts_32 (by decide) (by first | omega | exact hin _ _ | decide | (simp [sv_u, sv_row]; omega) | (simp [sv_u, sv_row]; exact hin _ _) | exact hin1 _ _ | (simp [sv_u, sv_row]; exact hin1 _ _)) (by first | omega | exact hin _ _ | decide | (simp [sv_u, sv_row]; omega) | (simp [sv_u, sv_row]; exact hin _ _) | exact hin1 _ _ | (simp [sv_u, sv_row]; exact hin1 _ _)) (fun h_32 => ?_) (fun h_32 => ?_)
            · refine sv_iconst dX5_counts_52 ?_
              refine sv_iadd dX5_counts_53 ?_
              refine sv_istore_n (i := 2) dX5_counts_54 rfl (by decide) rfl ?_
              refine sv_iinc dX5_counts_55 rfl (by decide) rfl ?_
              refine sv_goto (tgt := 4) dX5_counts_58 (by decide) ?_
              first
                | (exfalso; omega)
                | exact ih _ _ f1 (by omega) (by omega) (by rw [sp_cnt_s (by omega), hd]; simp [*]; try omega) hsq
                | exact ih _ _ f2 (by omega) (by omega) (by rw [sp_cnt_s (by omega), hd]; have h5 : ¬ w = 4 := by omega
                                                            simp [h5, h_45]; try omega) (hsq.trans hf2.sq)
            · refine sv_aload_n (i := 0) dX5_counts_35 rfl rfl ?_
              refine sv_aload_n (i := 0) dX5_counts_36 rfl rfl ?_
              refine sv_iload_n (i := 3) dX5_counts_37 rfl rfl ?_
              refine sv_iconst dX5_counts_38 ?_
              refine sv_vp0 (As := [_, _]) clX5_38 dX5_counts_39 ⟨_, rfl, rfl⟩ (by decide) rfl (Nat.le_of_ble_eq_true rfl) (by decide) (by decide) hsh.lt hsh.k (c_X5_of hsh hm1 _ _ (by omega)) ?_
              rw [show m (29 * i + 0) = m (29 * i) by rw [show 29 * i + 0 = 29 * i by omega]]
              have hnm := hw.num h1.1 (by omega : i < m 580)
              have hcm := hw.cm
              refine sv_vi0 (As := [_]) clX5_152 dX5_counts_42 ⟨_, rfl, rfl⟩ (by decide) rfl (Nat.le_of_ble_eq_true rfl) (by decide) (by decide) hsh.lt hsh.k (c_X5_reads hsh hm1 hw _ (by omega)) (fun a f2 hf2 => ?_)
              obtain ⟨ha2, hf2⟩ := hf2
              subst ha2
              refine sv_bif_ne (tgt := 52) dX5_counts_45 (by decide) (fun h_45 => ?_) (fun h_45 => ?_)
              · refine sv_iconst dX5_counts_52 ?_
                refine sv_iadd dX5_counts_53 ?_
                refine sv_istore_n (i := 2) dX5_counts_54 rfl (by decide) rfl ?_
                refine sv_iinc dX5_counts_55 rfl (by decide) rfl ?_
                refine sv_goto (tgt := 4) dX5_counts_58 (by decide) ?_
                first
                  | (exfalso; omega)
                  | exact ih _ _ f1 (by omega) (by omega) (by rw [sp_cnt_s (by omega), hd]; simp [*]; try omega) hsq
                  | exact ih _ _ f2 (by omega) (by omega) (by rw [sp_cnt_s (by omega), hd]; have h5 : ¬ w = 4 := by omega
                                                              simp [h5, h_45]; try omega) (hsq.trans hf2.sq)
              · refine sv_iconst dX5_counts_48 ?_
                refine sv_goto (tgt := 53) dX5_counts_49 (by decide) ?_
                refine sv_iadd dX5_counts_53 ?_
                refine sv_istore_n (i := 2) dX5_counts_54 rfl (by decide) rfl ?_
                refine sv_iinc dX5_counts_55 rfl (by decide) rfl ?_
                refine sv_goto (tgt := 4) dX5_counts_58 (by decide) ?_
                first
                  | (exfalso; omega)
                  | exact ih _ _ f1 (by omega) (by omega) (by rw [sp_cnt_s (by omega), hd]; simp [*]; try omega) hsq
                  | exact ih _ _ f2 (by omega) (by omega) (by rw [sp_cnt_s (by omega), hd]; have h5 : ¬ w = 4 := by omega
                                                              simp [h5, h_45]; try omega) (hsq.trans hf2.sq)
  refine sv_iconst dX5_counts_0 ?_
  refine sv_istore_n (i := 2) dX5_counts_1 rfl (by decide) rfl ?_
  refine sv_iconst dX5_counts_2 ?_
  refine sv_istore_n (i := 3) dX5_counts_3 rfl (by decide) rfl ?_
  exact lp (m 580 + 1).toNat 0 0 f (by omega) (by omega) rfl sp_sq.rf
set_option maxRecDepth 100000 in
set_option maxHeartbeats 4000000 in
theorem c_X5_longest {X : sv_X} {S : sv_S} {f : sv_F} {r : sv_R} {g : sv_G} {o : Nat} {m : Int → Int} (hsh : sv_M5 S r o) (hm : f (o + 1) = m) (hw : sp_wt m) : sv_C X 4 MX5_longest 0 0 [sv_r o] S f r g (sv_qi (fun a f' => a = sp_lon m ∧ sp_sq o f f') S r g) := by
  refine sv_met (by decide) (by simp [lg_sl, sv_cv, va_rf, Value.category]) ?_
  refine sv_fr fun hin => ?_
  have hcc := hw.c
  have lp : ∀ (k : Nat) (d : Int) (i : Int) (f1 : sv_F), m 580 - i < (k : Int) → (0 ≤ i ∧ i ≤ m 580) → (d = sp_mx (fun s => sp_lk m (m (29 * s))) i.toNat) → (0 ≤ d ∧ d ≤ 21) → (sp_sq o f f1) → sv_T X (sv_rm 4 0 0) MX5_longest (sv_Zm X 0 0 (sv_qi (fun a f' => a = sp_lon m ∧ sp_sq o f f') S r g)) 0 0 4 [some (sv_r o), some (sv_i d), some (sv_i i), none] [] S (f1) r g := by
    intro k
    induction k with
    | zero =>
      intro d i f1 hk h1 hd hdi hsq
      exact absurd hk (by omega)
    | succ k ih =>
      intro d i f1 hk h1 hd hdi hsq
      refine sv_fr fun hin1 => ?_
      have hm1 : f1 (o + 1) = m := hsq.m.trans hm
      refine sv_iload_n (i := 2) dX5_longest_4 rfl rfl ?_
      refine sv_aload_n (i := 0) dX5_longest_5 rfl rfl ?_
      refine sv_getR (kz := 0) flX5_7 dX5_longest_6 rfl rfl hsh.lt hsh.k hsh.r1 ?_
      refine sv_sipush dX5_longest_9 (by decide) ?_
      refine sv_iald dX5_longest_12 hsh.l1 hsh.s1 (by omega) ?_
      rw [hm1]
      refine sv_icmp_ge (tgt := 44) dX5_longest_13 (by decide) (by first | omega | exact hin _ _ | decide | (simp [sv_u, sv_row]; omega) | (simp [sv_u, sv_row]; exact hin _ _) | exact hin1 _ _ | (simp [sv_u, sv_row]; exact hin1 _ _)) (by first | omega | exact hin _ _ | decide | (simp [sv_u, sv_row]; omega) | (simp [sv_u, sv_row]; exact hin _ _) | exact hin1 _ _ | (simp [sv_u, sv_row]; exact hin1 _ _)) (fun h_13 => ?_) (fun h_13 => ?_)
      · refine sv_iload_n (i := 1) dX5_longest_44 rfl rfl ?_
        refine sv_ireturn dX5_longest_45 rfl ?_
        exact ⟨_, rfl, rfl, rfl, rfl, by rw [hd, show i = m 580 by omega]; rfl, hsq⟩
      · refine sv_aload_n (i := 0) dX5_longest_16 rfl rfl ?_
        refine sv_aload_n (i := 0) dX5_longest_17 rfl rfl ?_
        refine sv_iload_n (i := 2) dX5_longest_18 rfl rfl ?_
        refine sv_iconst dX5_longest_19 ?_
        refine sv_vp0 (As := [_, _]) clX5_38 dX5_longest_20 ⟨_, rfl, rfl⟩ (by decide) rfl (Nat.le_of_ble_eq_true rfl) (by decide) (by decide) hsh.lt hsh.k (c_X5_of hsh hm1 _ _ (by omega)) ?_
        rw [show m (29 * i + 0) = m (29 * i) by rw [show 29 * i + 0 = 29 * i by omega]]
        have hnm := hw.num h1.1 (by omega : i < m 580)
        have hcm := hw.cm
        refine sv_vi0 (As := [_]) clX5_173 dX5_longest_23 ⟨_, rfl, rfl⟩ (by decide) rfl (Nat.le_of_ble_eq_true rfl) (by decide) (by decide) hsh.lt hsh.k (c_X5_linksOf hsh hm1 hw _ (by omega)) (fun a f2 hf2 => ?_)
        have hq2 : sp_sq o f f2 := hsq.trans ⟨fun x a1 a2 a3 a4 a5 a6 a7 => hf2.2.2.2.1 x a1 a3, hf2.2.2.2.2 2 (by omega), hf2.2.2.2.2 10 (by omega)⟩
        refine sv_istore_n (i := 3) dX5_longest_26 rfl (by decide) rfl ?_
        refine sv_iload_n (i := 3) dX5_longest_27 rfl rfl ?_
        refine sv_iload_n (i := 1) dX5_longest_28 rfl rfl ?_
        refine sv_icmp_le (tgt := 36) dX5_longest_29 (by decide) (by first | omega | exact hin _ _ | decide | (simp [sv_u, sv_row]; omega) | (simp [sv_u, sv_row]; exact hin _ _) | exact hin1 _ _ | (simp [sv_u, sv_row]; exact hin1 _ _)) (by first | omega | exact hin _ _ | decide | (simp [sv_u, sv_row]; omega) | (simp [sv_u, sv_row]; exact hin _ _) | exact hin1 _ _ | (simp [sv_u, sv_row]; exact hin1 _ _)) (fun h_29 => ?_) (fun h_29 => ?_)
        · refine sv_iload_n (i := 1) dX5_longest_36 rfl rfl ?_
          refine sv_istore_n (i := 1) dX5_longest_37 rfl (by decide) rfl ?_
          refine sv_iinc dX5_longest_38 rfl (by decide) rfl ?_
          refine sv_goto (tgt := 4) dX5_longest_41 (by decide) ?_
          first
            | exact sv_wk (ih a (i + 1) f2 (by omega) (by omega) (by rw [sp_mx_s (by omega), ← hd, ← hf2.1]; omega) (by omega) hq2) (by simp [sv_sub, sv_ent, sv_lng]) rfl
            | exact sv_wk (ih d (i + 1) f2 (by omega) (by omega) (by rw [sp_mx_s (by omega), ← hd, ← hf2.1]; omega) (by omega) hq2) (by simp [sv_sub, sv_ent, sv_lng]) rfl
        · refine sv_iload_n (i := 3) dX5_longest_32 rfl rfl ?_
          refine sv_goto (tgt := 37) dX5_longest_33 (by decide) ?_
          refine sv_istore_n (i := 1) dX5_longest_37 rfl (by decide) rfl ?_
          refine sv_iinc dX5_longest_38 rfl (by decide) rfl ?_
          refine sv_goto (tgt := 4) dX5_longest_41 (by decide) ?_
          first
            | exact sv_wk (ih a (i + 1) f2 (by omega) (by omega) (by rw [sp_mx_s (by omega), ← hd, ← hf2.1]; omega) (by omega) hq2) (by simp [sv_sub, sv_ent, sv_lng]) rfl
            | exact sv_wk (ih d (i + 1) f2 (by omega) (by omega) (by rw [sp_mx_s (by omega), ← hd, ← hf2.1]; omega) (by omega) hq2) (by simp [sv_sub, sv_ent, sv_lng]) rfl
  refine sv_iconst dX5_longest_0 ?_
  refine sv_istore_n (i := 1) dX5_longest_1 rfl (by decide) rfl ?_
  refine sv_iconst dX5_longest_2 ?_
  refine sv_istore_n (i := 2) dX5_longest_3 rfl (by decide) rfl ?_
  exact sv_wk (lp (m 580 + 1).toNat 0 0 f (by omega) (by omega) rfl (by omega) sp_sq.rf) (by simp [sv_sub, sv_ent, sv_lng]) rfl
