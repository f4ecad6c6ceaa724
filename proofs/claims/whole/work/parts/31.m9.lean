set_option maxRecDepth 100000 in
set_option maxHeartbeats 4000000 in
theorem c_X5_cause {X : sv_X} {S : sv_S} {f : sv_F} {r : sv_R} {g : sv_G} {o : Nat} {m : Int → Int} (hsh : sv_M5 S r o) (hm : f (o + 1) = m) (hw : sp_wt m) (k d w : Int) (hk : sv_in k) (hd : sv_in d) (hw1 : sv_in w) : sv_C X 4 MX5_cause 0 0 [sv_r o, sv_i k, sv_i d, sv_i w] S f r g (sv_qi (fun a f' => a = sp_cau m k d w ∧ sp_sq o f f') S r g) := by
  refine sv_met (by decide) (by simp [lg_sl, sv_cv, va_rf, Value.category]) ?_
  refine sv_fr fun hin => ?_
  have hcm := hw.cm
  refine sv_iload_n (i := 1) dX5_cause_0 rfl rfl ?_
  refine sv_iconst dX5_cause_1 ?_
  refine sv_aload_n (i := 0) dX5_cause_2 rfl rfl ?_
  refine sv_getR (kz := 0) flX5_7 dX5_cause_3 rfl rfl hsh.lt hsh.k hsh.r1 ?_
  refine sv_sipush dX5_cause_6 (by decide) ?_
  refine sv_iald dX5_cause_9 hsh.l1 hsh.s1 (by omega) ?_
  rw [show f (o + 1) 581 = m 581 by rw [hm]]
  refine sv_iconst dX5_cause_10 ?_
  refine sv_isub dX5_cause_11 ?_
  refine sv_sp0 (As := [_, _, _]) clX5_81 dX5_cause_12 rfl (Nat.le_of_ble_eq_true rfl) (by decide) (by decide) (c_X5_in _ _ _ (by omega) (by omega) (by omega)) ?_
  refine sv_bif_eq (tgt := 31) dX5_cause_15 (by decide) (fun h_15 => ?_) (fun h_15 => ?_)
  · refine sv_bipush dX5_cause_31 (by decide) ?_
    refine sv_ireturn dX5_cause_33 rfl ?_
    exact ⟨_, rfl, rfl, rfl, rfl, by unfold sp_cau; rw [if_pos (by omega)], sp_sq.rf⟩
  · refine sv_iload_n (i := 2) dX5_cause_18 rfl rfl ?_
    refine sv_if_lt (tgt := 31) dX5_cause_19 (by decide) (by first | omega | exact hin _ _ | decide | (simp [sv_u, sv_row]; omega) | (simp [sv_u, sv_row]; exact hin _ _) | exact hin1 _ _ | (simp [sv_u, sv_row]; exact hin1 _ _)) (fun h_19 => ?_) (fun h_19 => ?_)
    · refine sv_bipush dX5_cause_31 (by decide) ?_
      refine sv_ireturn dX5_cause_33 rfl ?_
      exact ⟨_, rfl, rfl, rfl, rfl, by unfold sp_cau; rw [if_pos (by omega)], sp_sq.rf⟩
    · refine sv_iload_n (i := 3) dX5_cause_22 rfl rfl ?_
      refine sv_iconst dX5_cause_23 ?_
      refine sv_iconst dX5_cause_24 ?_
      refine sv_sp0 (As := [_, _, _]) clX5_81 dX5_cause_25 rfl (Nat.le_of_ble_eq_true rfl) (by decide) (by decide) (c_X5_in _ _ _ (by omega) (by omega) (by omega)) ?_
      refine sv_bif_ne (tgt := 34) dX5_cause_28 (by decide) (fun h_28 => ?_) (fun h_28 => ?_)
      · refine sv_aload_n (i := 0) dX5_cause_34 rfl rfl ?_
        refine sv_iload_n (i := 1) dX5_cause_35 rfl rfl ?_
        refine sv_vi0 (As := [_]) clX5_152 dX5_cause_36 ⟨_, rfl, rfl⟩ (by decide) rfl (Nat.le_of_ble_eq_true rfl) (by decide) (by decide) hsh.lt hsh.k (c_X5_reads hsh (by first | exact hm | exact hm1 | exact hm2 | rfl | (simp only [sv_u_ne, sv_row_ne, sv_row_eq, ne_eq, Nat.add_left_cancel_iff, Nat.reduceEqDiff, not_false_eq_true, Nat.add_eq_left, reduceCtorEq, OfNat.ofNat_ne_zero, OfNat.one_ne_ofNat, OfNat.ofNat_ne_one, one_ne_zero, Nat.succ_ne_self]; first | exact hm | rfl) | (simp [sv_u_ne, sv_row_ne, sv_row_eq]; done) | (simp [sv_u_ne, sv_row_ne, sv_row_eq]; exact hm)) hw _ (by omega)) (fun a f0 hf0 => ?_)
        obtain ⟨ha0, hf0⟩ := hf0
        subst ha0
        refine sv_istore dX5_cause_39 (by decide) rfl ?_
        refine sv_iload dX5_cause_41 rfl ?_
        obtain ⟨hlk1, hlk2, hlk3⟩ := hf0.l
        obtain ⟨-, -, -, L, c1, c2, c3, c4, c5, c6⟩ := id hf0
        refine sv_bif_ne (tgt := 68) dX5_cause_43 (by decide) (fun h_43 => ?_) (fun h_43 => ?_)
        · refine sv_iconst dX5_cause_68 ?_
          refine sv_istore dX5_cause_69 (by decide) rfl ?_
          refine sv_iload dX5_cause_71 rfl ?_
          refine sv_if_ne (tgt := 80) dX5_cause_73 (by decide) (by omega) (fun h_73 => ?_) (fun h_73 => ?_)
          · refine sv_iload_n (i := 3) dX5_cause_80 rfl rfl ?_
            refine sv_if_ne (tgt := 93) dX5_cause_81 (by decide) (by first | omega | exact hin _ _ | decide | (simp [sv_u, sv_row]; omega) | (simp [sv_u, sv_row]; exact hin _ _) | exact hin1 _ _ | (simp [sv_u, sv_row]; exact hin1 _ _)) (fun h_81 => ?_) (fun h_81 => ?_)
            · refine sv_aload_n (i := 0) dX5_cause_93 rfl rfl ?_
              refine sv_getR (kz := 5) flX5_19 dX5_cause_94 rfl rfl hsh.lt hsh.k hsh.r4 ?_
              refine sv_iload_n (i := 2) dX5_cause_97 rfl rfl ?_
              refine sv_iald dX5_cause_98 hsh.l4 hsh.s4 (by omega) ?_
              refine sv_ireturn dX5_cause_99 rfl ?_
              first
                | (exfalso; omega)
                | exact ⟨_, rfl, rfl, rfl, rfl, by unfold sp_cau; rw [if_neg (by omega), if_pos (Or.inl (by assumption))], hf0.sq⟩
                | exact ⟨_, rfl, rfl, rfl, rfl, by unfold sp_cau; rw [if_neg (by omega), if_pos (Or.inr (Or.inl (by omega)))], hf0.sq⟩
                | exact ⟨_, rfl, rfl, rfl, rfl, by unfold sp_cau; rw [if_neg (by omega), if_pos (Or.inr (Or.inr (by omega)))], hf0.sq⟩
                | exact ⟨_, rfl, rfl, rfl, rfl, by unfold sp_cau; rw [if_neg (by omega), if_neg (by intro h; rcases h with h | h | h <;> omega), if_pos (by omega)]; exact y2, hf0.sq⟩
                | exact ⟨_, rfl, rfl, rfl, rfl, by unfold sp_cau; rw [if_neg (by omega), if_neg (by intro h; rcases h with h | h | h <;> omega), if_neg (by omega)]; exact y1, hf0.sq⟩
            · refine sv_aload_n (i := 0) dX5_cause_84 rfl rfl ?_
              refine sv_getR (kz := 6) flX5_22 dX5_cause_85 rfl rfl hsh.lt hsh.k hsh.r5 ?_
              refine sv_iload_n (i := 2) dX5_cause_88 rfl rfl ?_
              refine sv_iald dX5_cause_89 hsh.l5 hsh.s5 (by omega) ?_
              refine sv_goto (tgt := 99) dX5_cause_90 (by decide) ?_
              refine sv_ireturn dX5_cause_99 rfl ?_
              first
                | (exfalso; omega)
                | exact ⟨_, rfl, rfl, rfl, rfl, by unfold sp_cau; rw [if_neg (by omega), if_pos (Or.inl (by assumption))], hf0.sq⟩
                | exact ⟨_, rfl, rfl, rfl, rfl, by unfold sp_cau; rw [if_neg (by omega), if_pos (Or.inr (Or.inl (by omega)))], hf0.sq⟩
                | exact ⟨_, rfl, rfl, rfl, rfl, by unfold sp_cau; rw [if_neg (by omega), if_pos (Or.inr (Or.inr (by omega)))], hf0.sq⟩
                | exact ⟨_, rfl, rfl, rfl, rfl, by unfold sp_cau; rw [if_neg (by omega), if_neg (by intro h; rcases h with h | h | h <;> omega), if_pos (by omega)]; exact y2, hf0.sq⟩
                | exact ⟨_, rfl, rfl, rfl, rfl, by unfold sp_cau; rw [if_neg (by omega), if_neg (by intro h; rcases h with h | h | h <;> omega), if_neg (by omega)]; exact y1, hf0.sq⟩
          · refine sv_iconst dX5_cause_76 ?_
            refine sv_goto (tgt := 99) dX5_cause_77 (by decide) ?_
            refine sv_ireturn dX5_cause_99 rfl ?_
            first
              | (exfalso; omega)
              | exact ⟨_, rfl, rfl, rfl, rfl, by unfold sp_cau; rw [if_neg (by omega), if_pos (Or.inl (by assumption))], hf0.sq⟩
              | exact ⟨_, rfl, rfl, rfl, rfl, by unfold sp_cau; rw [if_neg (by omega), if_pos (Or.inr (Or.inl (by omega)))], hf0.sq⟩
              | exact ⟨_, rfl, rfl, rfl, rfl, by unfold sp_cau; rw [if_neg (by omega), if_pos (Or.inr (Or.inr (by omega)))], hf0.sq⟩
              | exact ⟨_, rfl, rfl, rfl, rfl, by unfold sp_cau; rw [if_neg (by omega), if_neg (by intro h; rcases h with h | h | h <;> omega), if_pos (by omega)]; exact y2, hf0.sq⟩
              | exact ⟨_, rfl, rfl, rfl, rfl, by unfold sp_cau; rw [if_neg (by omega), if_neg (by intro h; rcases h with h | h | h <;> omega), if_neg (by omega)]; exact y1, hf0.sq⟩
        · refine sv_iload_n (i := 2) dX5_cause_46 rfl rfl ?_
          refine sv_aload_n (i := 0) dX5_cause_47 rfl rfl ?_
          refine sv_getI (kz := 7) flX5_56 dX5_cause_48 rfl rfl hsh.lt hsh.k ?_
          refine sv_icmp_ge (tgt := 68) dX5_cause_51 (by decide) (by first | omega | exact hin _ _ | decide | (simp [sv_u, sv_row]; omega) | (simp [sv_u, sv_row]; exact hin _ _) | exact hin1 _ _ | (simp [sv_u, sv_row]; exact hin1 _ _)) (by first | omega | exact hin _ _ | decide | (simp [sv_u, sv_row]; omega) | (simp [sv_u, sv_row]; exact hin _ _) | exact hin1 _ _ | (simp [sv_u, sv_row]; exact hin1 _ _)) (fun h_51 => ?_) (fun h_51 => ?_)
          · refine sv_iconst dX5_cause_68 ?_
            refine sv_istore dX5_cause_69 (by decide) rfl ?_
            refine sv_iload dX5_cause_71 rfl ?_
            refine sv_if_ne (tgt := 80) dX5_cause_73 (by decide) (by omega) (fun h_73 => ?_) (fun h_73 => ?_)
            · refine sv_iload_n (i := 3) dX5_cause_80 rfl rfl ?_
              refine sv_if_ne (tgt := 93) dX5_cause_81 (by decide) (by first | omega | exact hin _ _ | decide | (simp [sv_u, sv_row]; omega) | (simp [sv_u, sv_row]; exact hin _ _) | exact hin1 _ _ | (simp [sv_u, sv_row]; exact hin1 _ _)) (fun h_81 => ?_) (fun h_81 => ?_)
              · refine sv_aload_n (i := 0) dX5_cause_93 rfl rfl ?_
                refine sv_getR (kz := 5) flX5_19 dX5_cause_94 rfl rfl hsh.lt hsh.k hsh.r4 ?_
                refine sv_iload_n (i := 2) dX5_cause_97 rfl rfl ?_
                refine sv_iald dX5_cause_98 hsh.l4 hsh.s4 (by omega) ?_
                refine sv_ireturn dX5_cause_99 rfl ?_
                first
                  | (exfalso; omega)
                  | exact ⟨_, rfl, rfl, rfl, rfl, by unfold sp_cau; rw [if_neg (by omega), if_pos (Or.inl (by assumption))], hf0.sq⟩
                  | exact ⟨_, rfl, rfl, rfl, rfl, by unfold sp_cau; rw [if_neg (by omega), if_pos (Or.inr (Or.inl (by omega)))], hf0.sq⟩
                  | exact ⟨_, rfl, rfl, rfl, rfl, by unfold sp_cau; rw [if_neg (by omega), if_pos (Or.inr (Or.inr (by omega)))], hf0.sq⟩
                  | exact ⟨_, rfl, rfl, rfl, rfl, by unfold sp_cau; rw [if_neg (by omega), if_neg (by intro h; rcases h with h | h | h <;> omega), if_pos (by omega)]; exact y2, hf0.sq⟩
                  | exact ⟨_, rfl, rfl, rfl, rfl, by unfold sp_cau; rw [if_neg (by omega), if_neg (by intro h; rcases h with h | h | h <;> omega), if_neg (by omega)]; exact y1, hf0.sq⟩
              · refine sv_aload_n (i := 0) dX5_cause_84 rfl rfl ?_
                refine sv_getR (kz := 6) flX5_22 dX5_cause_85 rfl rfl hsh.lt hsh.k hsh.r5 ?_
                refine sv_iload_n (i := 2) dX5_cause_88 rfl rfl ?_
                refine sv_iald dX5_cause_89 hsh.l5 hsh.s5 (by omega) ?_
                refine sv_goto (tgt := 99) dX5_cause_90 (by decide) ?_
                refine sv_ireturn dX5_cause_99 rfl ?_
                first
                  | (exfalso; omega)
                  | exact ⟨_, rfl, rfl, rfl, rfl, by unfold sp_cau; rw [if_neg (by omega), if_pos (Or.inl (by assumption))], hf0.sq⟩
                  | exact ⟨_, rfl, rfl, rfl, rfl, by unfold sp_cau; rw [if_neg (by omega), if_pos (Or.inr (Or.inl (by omega)))], hf0.sq⟩
                  | exact ⟨_, rfl, rfl, rfl, rfl, by unfold sp_cau; rw [if_neg (by omega), if_pos (Or.inr (Or.inr (by omega)))], hf0.sq⟩
                  | exact ⟨_, rfl, rfl, rfl, rfl, by unfold sp_cau; rw [if_neg (by omega), if_neg (by intro h; rcases h with h | h | h <;> omega), if_pos (by omega)]; exact y2, hf0.sq⟩
                  | exact ⟨_, rfl, rfl, rfl, rfl, by unfold sp_cau; rw [if_neg (by omega), if_neg (by intro h; rcases h with h | h | h <;> omega), if_neg (by omega)]; exact y1, hf0.sq⟩
            · refine sv_iconst dX5_cause_76 ?_
              refine sv_goto (tgt := 99) dX5_cause_77 (by decide) ?_
              refine sv_ireturn dX5_cause_99 rfl ?_
              first
                | (exfalso; omega)
                | exact ⟨_, rfl, rfl, rfl, rfl, by unfold sp_cau; rw [if_neg (by omega), if_pos (Or.inl (by assumption))], hf0.sq⟩
                | exact ⟨_, rfl, rfl, rfl, rfl, by unfold sp_cau; rw [if_neg (by omega), if_pos (Or.inr (Or.inl (by omega)))], hf0.sq⟩
                | exact ⟨_, rfl, rfl, rfl, rfl, by unfold sp_cau; rw [if_neg (by omega), if_pos (Or.inr (Or.inr (by omega)))], hf0.sq⟩
                | exact ⟨_, rfl, rfl, rfl, rfl, by unfold sp_cau; rw [if_neg (by omega), if_neg (by intro h; rcases h with h | h | h <;> omega), if_pos (by omega)]; exact y2, hf0.sq⟩
                | exact ⟨_, rfl, rfl, rfl, rfl, by unfold sp_cau; rw [if_neg (by omega), if_neg (by intro h; rcases h with h | h | h <;> omega), if_neg (by omega)]; exact y1, hf0.sq⟩
          · obtain ⟨y1, y2⟩ := c6 d.toNat (by omega)
            rw [show ((d.toNat : Nat) : Int) = d by omega] at y1 y2
            refine sv_aload_n (i := 0) dX5_cause_54 rfl rfl ?_
            refine sv_fr fun hin1 => ?_
            refine sv_getR (kz := 6) flX5_22 dX5_cause_55 rfl rfl hsh.lt hsh.k hsh.r5 ?_
            refine sv_iload_n (i := 2) dX5_cause_58 rfl rfl ?_
            refine sv_iald dX5_cause_59 hsh.l5 hsh.s5 (by omega) ?_
            refine sv_iconst dX5_cause_60 ?_
            refine sv_icmp_eq (tgt := 68) dX5_cause_61 (by decide) (by first | omega | exact hin1 _ _) (by first | omega | exact hin1 _ _) (fun h_61 => ?_) (fun h_61 => ?_)
            · refine sv_iconst dX5_cause_68 ?_
              refine sv_istore dX5_cause_69 (by decide) rfl ?_
              refine sv_iload dX5_cause_71 rfl ?_
              refine sv_if_ne (tgt := 80) dX5_cause_73 (by decide) (by omega) (fun h_73 => ?_) (fun h_73 => ?_)
              · refine sv_iload_n (i := 3) dX5_cause_80 rfl rfl ?_
                refine sv_if_ne (tgt := 93) dX5_cause_81 (by decide) (by first | omega | exact hin _ _ | decide | (simp [sv_u, sv_row]; omega) | (simp [sv_u, sv_row]; exact hin _ _) | exact hin1 _ _ | (simp [sv_u, sv_row]; exact hin1 _ _)) (fun h_81 => ?_) (fun h_81 => ?_)
                · refine sv_aload_n (i := 0) dX5_cause_93 rfl rfl ?_
                  refine sv_getR (kz := 5) flX5_19 dX5_cause_94 rfl rfl hsh.lt hsh.k hsh.r4 ?_
                  refine sv_iload_n (i := 2) dX5_cause_97 rfl rfl ?_
                  refine sv_iald dX5_cause_98 hsh.l4 hsh.s4 (by omega) ?_
                  refine sv_ireturn dX5_cause_99 rfl ?_
                  first
                    | (exfalso; omega)
                    | exact ⟨_, rfl, rfl, rfl, rfl, by unfold sp_cau; rw [if_neg (by omega), if_pos (Or.inl (by assumption))], hf0.sq⟩
                    | exact ⟨_, rfl, rfl, rfl, rfl, by unfold sp_cau; rw [if_neg (by omega), if_pos (Or.inr (Or.inl (by omega)))], hf0.sq⟩
                    | exact ⟨_, rfl, rfl, rfl, rfl, by unfold sp_cau; rw [if_neg (by omega), if_pos (Or.inr (Or.inr (by omega)))], hf0.sq⟩
                    | exact ⟨_, rfl, rfl, rfl, rfl, by unfold sp_cau; rw [if_neg (by omega), if_neg (by intro h; rcases h with h | h | h <;> omega), if_pos (by omega)]; exact y2, hf0.sq⟩
                    | exact ⟨_, rfl, rfl, rfl, rfl, by unfold sp_cau; rw [if_neg (by omega), if_neg (by intro h; rcases h with h | h | h <;> omega), if_neg (by omega)]; exact y1, hf0.sq⟩
                · refine sv_aload_n (i := 0) dX5_cause_84 rfl rfl ?_
                  refine sv_getR (kz := 6) flX5_22 dX5_cause_85 rfl rfl hsh.lt hsh.k hsh.r5 ?_
                  refine sv_iload_n (i := 2) dX5_cause_88 rfl rfl ?_
                  refine sv_iald dX5_cause_89 hsh.l5 hsh.s5 (by omega) ?_
                  refine sv_goto (tgt := 99) dX5_cause_90 (by decide) ?_
                  refine sv_ireturn dX5_cause_99 rfl ?_
                  first
                    | (exfalso; omega)
                    | exact ⟨_, rfl, rfl, rfl, rfl, by unfold sp_cau; rw [if_neg (by omega), if_pos (Or.inl (by assumption))], hf0.sq⟩
                    | exact ⟨_, rfl, rfl, rfl, rfl, by unfold sp_cau; rw [if_neg (by omega), if_pos (Or.inr (Or.inl (by omega)))], hf0.sq⟩
                    | exact ⟨_, rfl, rfl, rfl, rfl, by unfold sp_cau; rw [if_neg (by omega), if_pos (Or.inr (Or.inr (by omega)))], hf0.sq⟩
                    | exact ⟨_, rfl, rfl, rfl, rfl, by unfold sp_cau; rw [if_neg (by omega), if_neg (by intro h; rcases h with h | h | h <;> omega), if_pos (by omega)]; exact y2, hf0.sq⟩
                    | exact ⟨_, rfl, rfl, rfl, rfl, by unfold sp_cau; rw [if_neg (by omega), if_neg (by intro h; rcases h with h | h | h <;> omega), if_neg (by omega)]; exact y1, hf0.sq⟩
              · refine sv_iconst dX5_cause_76 ?_
                refine sv_goto (tgt := 99) dX5_cause_77 (by decide) ?_
                refine sv_ireturn dX5_cause_99 rfl ?_
                first
                  | (exfalso; omega)
                  | exact ⟨_, rfl, rfl, rfl, rfl, by unfold sp_cau; rw [if_neg (by omega), if_pos (Or.inl (by assumption))], hf0.sq⟩
                  | exact ⟨_, rfl, rfl, rfl, rfl, by unfold sp_cau; rw [if_neg (by omega), if_pos (Or.inr (Or.inl (by omega)))], hf0.sq⟩
                  | exact ⟨_, rfl, rfl, rfl, rfl, by unfold sp_cau; rw [if_neg (by omega), if_pos (Or.inr (Or.inr (by omega)))], hf0.sq⟩
                  | exact ⟨_, rfl, rfl, rfl, rfl, by unfold sp_cau; rw [if_neg (by omega), if_neg (by intro h; rcases h with h | h | h <;> omega), if_pos (by omega)]; exact y2, hf0.sq⟩
                  | exact ⟨_, rfl, rfl, rfl, rfl, by unfold sp_cau; rw [if_neg (by omega), if_neg (by intro h; rcases h with h | h | h <;> omega), if_neg (by omega)]; exact y1, hf0.sq⟩
            · refine sv_iconst dX5_cause_64 ?_
              refine sv_goto (tgt := 69) dX5_cause_65 (by decide) ?_
              refine sv_istore dX5_cause_69 (by decide) rfl ?_
              refine sv_iload dX5_cause_71 rfl ?_
              refine sv_if_ne (tgt := 80) dX5_cause_73 (by decide) (by omega) (fun h_73 => ?_) (fun h_73 => ?_)
              · refine sv_iload_n (i := 3) dX5_cause_80 rfl rfl ?_
                refine sv_if_ne (tgt := 93) dX5_cause_81 (by decide) (by first | omega | exact hin _ _ | decide | (simp [sv_u, sv_row]; omega) | (simp [sv_u, sv_row]; exact hin _ _) | exact hin1 _ _ | (simp [sv_u, sv_row]; exact hin1 _ _)) (fun h_81 => ?_) (fun h_81 => ?_)
                · refine sv_aload_n (i := 0) dX5_cause_93 rfl rfl ?_
                  refine sv_getR (kz := 5) flX5_19 dX5_cause_94 rfl rfl hsh.lt hsh.k hsh.r4 ?_
                  refine sv_iload_n (i := 2) dX5_cause_97 rfl rfl ?_
                  refine sv_iald dX5_cause_98 hsh.l4 hsh.s4 (by omega) ?_
                  refine sv_ireturn dX5_cause_99 rfl ?_
                  first
                    | (exfalso; omega)
                    | exact ⟨_, rfl, rfl, rfl, rfl, by unfold sp_cau; rw [if_neg (by omega), if_pos (Or.inl (by assumption))], hf0.sq⟩
                    | exact ⟨_, rfl, rfl, rfl, rfl, by unfold sp_cau; rw [if_neg (by omega), if_pos (Or.inr (Or.inl (by omega)))], hf0.sq⟩
                    | exact ⟨_, rfl, rfl, rfl, rfl, by unfold sp_cau; rw [if_neg (by omega), if_pos (Or.inr (Or.inr (by omega)))], hf0.sq⟩
                    | exact ⟨_, rfl, rfl, rfl, rfl, by unfold sp_cau; rw [if_neg (by omega), if_neg (by intro h; rcases h with h | h | h <;> omega), if_pos (by omega)]; exact y2, hf0.sq⟩
                    | exact ⟨_, rfl, rfl, rfl, rfl, by unfold sp_cau; rw [if_neg (by omega), if_neg (by intro h; rcases h with h | h | h <;> omega), if_neg (by omega)]; exact y1, hf0.sq⟩
                · refine sv_aload_n (i := 0) dX5_cause_84 rfl rfl ?_
                  refine sv_getR (kz := 6) flX5_22 dX5_cause_85 rfl rfl hsh.lt hsh.k hsh.r5 ?_
                  refine sv_iload_n (i := 2) dX5_cause_88 rfl rfl ?_
                  refine sv_iald dX5_cause_89 hsh.l5 hsh.s5 (by omega) ?_
                  refine sv_goto (tgt := 99) dX5_cause_90 (by decide) ?_
                  refine sv_ireturn dX5_cause_99 rfl ?_
                  first
                    | (exfalso; omega)
                    | exact ⟨_, rfl, rfl, rfl, rfl, by unfold sp_cau; rw [if_neg (by omega), if_pos (Or.inl (by assumption))], hf0.sq⟩
                    | exact ⟨_, rfl, rfl, rfl, rfl, by unfold sp_cau; rw [if_neg (by omega), if_pos (Or.inr (Or.inl (by omega)))], hf0.sq⟩
                    | exact ⟨_, rfl, rfl, rfl, rfl, by unfold sp_cau; rw [if_neg (by omega), if_pos (Or.inr (Or.inr (by omega)))], hf0.sq⟩
                    | exact ⟨_, rfl, rfl, rfl, rfl, by unfold sp_cau; rw [if_neg (by omega), if_neg (by intro h; rcases h with h | h | h <;> omega), if_pos (by omega)]; exact y2, hf0.sq⟩
                    | exact ⟨_, rfl, rfl, rfl, rfl, by unfold sp_cau; rw [if_neg (by omega), if_neg (by intro h; rcases h with h | h | h <;> omega), if_neg (by omega)]; exact y1, hf0.sq⟩
              · refine sv_iconst dX5_cause_76 ?_
                refine sv_goto (tgt := 99) dX5_cause_77 (by decide) ?_
                refine sv_ireturn dX5_cause_99 rfl ?_
                first
                  | (exfalso; omega)
                  | exact ⟨_, rfl, rfl, rfl, rfl, by unfold sp_cau; rw [if_neg (by omega), if_pos (Or.inl (by assumption))], hf0.sq⟩
                  | exact ⟨_, rfl, rfl, rfl, rfl, by unfold sp_cau; rw [if_neg (by omega), if_pos (Or.inr (Or.inl (by omega)))], hf0.sq⟩
                  | exact ⟨_, rfl, rfl, rfl, rfl, by unfold sp_cau; rw [if_neg (by omega), if_pos (Or.inr (Or.inr (by omega)))], hf0.sq⟩
                  | exact ⟨_, rfl, rfl, rfl, rfl, by unfold sp_cau; rw [if_neg (by omega), if_neg (by intro h; rcases h with h | h | h <;> omega), if_pos (by omega)]; exact y2, hf0.sq⟩
                  | exact ⟨_, rfl, rfl, rfl, rfl, by unfold sp_cau; rw [if_neg (by omega), if_neg (by intro h; rcases h with h | h | h <;> omega), if_neg (by omega)]; exact y1, hf0.sq⟩
      · refine sv_bipush dX5_cause_31 (by decide) ?_
        refine sv_ireturn dX5_cause_33 rfl ?_
        exact ⟨_, rfl, rfl, rfl, rfl, by unfold sp_cau; rw [if_pos (by omega)], sp_sq.rf⟩
set_option maxRecDepth 100000 in
set_option maxHeartbeats 4000000 in
theorem c_X5_apart {X : sv_X} {S : sv_S} {f : sv_F} {r : sv_R} {g : sv_G} {o : Nat} {m : Int → Int} (hsh : sv_M5 S r o) (hm : f (o + 1) = m) (hw : sp_wt m) (k p : Int) (hk : sv_in k) (hp : sv_in p) : sv_C X 4 MX5_apart 0 0 [sv_r o, sv_i k, sv_i p] S f r g (sv_qi (fun a f' => a = sp_apt m k p ∧ sp_sq o f f') S r g) := by
  refine sv_met (by decide) (by simp [lg_sl, sv_cv, va_rf, Value.category]) ?_
  refine sv_fr fun hin => ?_
  have h59 : sp_slot m k ≠ -1 → sp_slot m p ≠ -1 → sv_T X (sv_rm 4 0 0) MX5_apart (sv_Zm X 0 0 (sv_qi (fun a f' => a = sp_apt m k p ∧ sp_sq o f f') S r g)) 0 0 59 [some (sv_r o), some (sv_i k), some (sv_i p), some (sv_i (sp_slot m k)), some (sv_i (sp_slot m p)), none] [sv_i (max (m (29 * sp_slot m k + 1)) (m (29 * sp_slot m p + 1)))] S (f) r g := by
    intro hslk hslp
    obtain ⟨s0, s1, s2⟩ := sp_slot_in hslk
    obtain ⟨t0, t1, t2⟩ := sp_slot_in hslp
    have hfk := hw.frm s0 s1
    have hfp := hw.frm t0 t1
    have hnk := hw.num s0 s1
    have hnp := hw.num t0 t1
    have hcm := hw.cm
    refine sv_istore (i := 5) dX5_apart_59 (by decide) rfl ?_
    refine sv_aload_n (i := 0) dX5_apart_61 rfl rfl ?_
    refine sv_iload_n (i := 1) dX5_apart_62 rfl rfl ?_
    refine sv_vi0 (As := [_]) clX5_152 dX5_apart_63 ⟨_, rfl, rfl⟩ (by decide) rfl (Nat.le_of_ble_eq_true rfl) (by decide) (by decide) hsh.lt hsh.k (c_X5_reads hsh (by first | exact hm | exact hm1 | exact hm2 | rfl | (simp only [sv_u_ne, sv_row_ne, sv_row_eq, ne_eq, Nat.add_left_cancel_iff, Nat.reduceEqDiff, not_false_eq_true, Nat.add_eq_left, reduceCtorEq, OfNat.ofNat_ne_zero, OfNat.one_ne_ofNat, OfNat.ofNat_ne_one, one_ne_zero, Nat.succ_ne_self]; first | exact hm | rfl) | (simp [sv_u_ne, sv_row_ne, sv_row_eq]; done) | (simp [sv_u_ne, sv_row_ne, sv_row_eq]; exact hm)) hw _ (by omega)) (fun a f0 hf0 => ?_)
    obtain ⟨ha0, hf0⟩ := hf0
    subst ha0
    refine sv_bif_ne (tgt := 72) dX5_apart_66 (by decide) (fun h_66 => ?_) (fun h_66 => ?_)
    · obtain ⟨z1, z2⟩ := hf0.2.2.1 h_66
      have hokk := sp_V_ok' hw h_66
      have hok0 : sp_ok (f0 (o + 3)) (6 + 2 * f0 o 4) := fun j a1 a2 => by
        rw [z1] at a2
        rw [z2 j a1 a2]
        exact hokk j a1 a2
      have hfm0 : 1 ≤ f0 o 4 ∧ f0 o 4 ≤ 3 := by rw [z1]; exact hfk
      refine sv_aload_n (i := 0) dX5_apart_72 rfl rfl ?_
      refine sv_iload dX5_apart_73 rfl ?_
      refine sv_vv0 (As := [_]) clX5_70 dX5_apart_75 ⟨_, rfl, rfl⟩ (by decide) rfl (Nat.le_of_ble_eq_true rfl) (by decide) (by decide) hsh.lt hsh.k (c_X5_raisesTo hsh _ (by omega) (by omega) hfm0 (fun _ => hok0)) (fun f1 hf1 => ?_)
      have q1 : sp_sq o f f1 := hf0.sq.trans (by subst hf1; exact ⟨fun x a1 a2 a3 a4 a5 a6 a7 => by rw [sv_u_ne a1, sv_row_ne a2], by simp [sv_u, sv_row], by simp [sv_u, sv_row]⟩)
      have q2 : ∀ j, 0 ≤ j → j < 6 + 2 * (max (m (29 * sp_slot m k + 1)) (m (29 * sp_slot m p + 1))) → f1 (o + 3) j = sp_rz (sp_V m k) (m (29 * sp_slot m k + 1)) (max (m (29 * sp_slot m k + 1)) (m (29 * sp_slot m p + 1))) j := fun j a1 a2 => by
        subst hf1
        rw [sv_u_ne (by omega), sv_row_eq, z1]
        exact sp_rz_congr hfk.1 (by omega) (by omega) z2 j a1 a2
      refine sv_aload_n (i := 0) dX5_apart_78 rfl rfl ?_
      refine sv_vv0 (As := []) clX5_149 dX5_apart_79 ⟨_, rfl, rfl⟩ (by decide) rfl (Nat.le_of_ble_eq_true rfl) (by decide) (by decide) hsh.lt hsh.k (c_X5_setsAside hsh) (fun f2 hf2 => ?_)
      have q3 : sp_sq o f f2 := q1.trans (by subst hf2; exact ⟨fun x a1 a2 a3 a4 a5 a6 a7 => by rw [sv_row_ne a5], by simp [sv_row], by simp [sv_row]⟩)
      have q4 : ∀ j, 0 ≤ j → j < 6 + 2 * (max (m (29 * sp_slot m k + 1)) (m (29 * sp_slot m p + 1))) → f2 (o + 6) j = sp_rz (sp_V m k) (m (29 * sp_slot m k + 1)) (max (m (29 * sp_slot m k + 1)) (m (29 * sp_slot m p + 1))) j := fun j a1 a2 => by
        subst hf2
        rw [sv_row_eq, if_pos (by omega)]
        exact q2 j a1 a2
      have hm1 : f2 (o + 1) = m := q3.m.trans hm
      refine sv_aload_n (i := 0) dX5_apart_82 rfl rfl ?_
      refine sv_iload_n (i := 2) dX5_apart_83 rfl rfl ?_
      refine sv_vi0 (As := [_]) clX5_152 dX5_apart_84 ⟨_, rfl, rfl⟩ (by decide) rfl (Nat.le_of_ble_eq_true rfl) (by decide) (by decide) hsh.lt hsh.k (c_X5_reads hsh (by first | exact hm | exact hm1 | exact hm2 | rfl | (simp only [sv_u_ne, sv_row_ne, sv_row_eq, ne_eq, Nat.add_left_cancel_iff, Nat.reduceEqDiff, not_false_eq_true, Nat.add_eq_left, reduceCtorEq, OfNat.ofNat_ne_zero, OfNat.one_ne_ofNat, OfNat.ofNat_ne_one, one_ne_zero, Nat.succ_ne_self]; first | exact hm | rfl) | (simp [sv_u_ne, sv_row_ne, sv_row_eq]; done) | (simp [sv_u_ne, sv_row_ne, sv_row_eq]; exact hm)) hw _ (by omega)) (fun a f3 hf3 => ?_)
      obtain ⟨ha3, hf3⟩ := hf3
      subst ha3
      refine sv_bif_ne (tgt := 93) dX5_apart_87 (by decide) (fun h_87 => ?_) (fun h_87 => ?_)
      · obtain ⟨y1, y2⟩ := hf3.2.2.1 h_87
        have hokp := sp_V_ok' hw h_87
        have hok3 : sp_ok (f3 (o + 3)) (6 + 2 * f3 o 4) := fun j a1 a2 => by
          rw [y1] at a2
          rw [y2 j a1 a2]
          exact hokp j a1 a2
        have hfm3 : 1 ≤ f3 o 4 ∧ f3 o 4 ≤ 3 := by rw [y1]; exact hfp
        refine sv_aload_n (i := 0) dX5_apart_93 rfl rfl ?_
        refine sv_iload dX5_apart_94 rfl ?_
        refine sv_vv0 (As := [_]) clX5_70 dX5_apart_96 ⟨_, rfl, rfl⟩ (by decide) rfl (Nat.le_of_ble_eq_true rfl) (by decide) (by decide) hsh.lt hsh.k (c_X5_raisesTo hsh _ (by omega) (by omega) hfm3 (fun _ => hok3)) (fun f4 hf4 => ?_)
        have q5 : sp_sq o f f4 := (q3.trans hf3.sq).trans (by subst hf4; exact ⟨fun x a1 a2 a3 a4 a5 a6 a7 => by rw [sv_u_ne a1, sv_row_ne a2], by simp [sv_u, sv_row], by simp [sv_u, sv_row]⟩)
        have q6 : ∀ j, 0 ≤ j → j < 6 + 2 * (max (m (29 * sp_slot m k + 1)) (m (29 * sp_slot m p + 1))) → f4 (o + 3) j = sp_rz (sp_V m p) (m (29 * sp_slot m p + 1)) (max (m (29 * sp_slot m k + 1)) (m (29 * sp_slot m p + 1))) j := fun j a1 a2 => by
          subst hf4
          rw [sv_u_ne (by omega), sv_row_eq, y1]
          exact sp_rz_congr hfp.1 (by omega) (by omega) y2 j a1 a2
        have q7 : ∀ j, 0 ≤ j → j < 6 + 2 * (max (m (29 * sp_slot m k + 1)) (m (29 * sp_slot m p + 1))) → f4 (o + 6) j = sp_rz (sp_V m k) (m (29 * sp_slot m k + 1)) (max (m (29 * sp_slot m k + 1)) (m (29 * sp_slot m p + 1))) j := fun j a1 a2 => by
          subst hf4
          rw [sv_u_ne (by omega), sv_row_ne (by omega), hf3.w]
          exact q4 j a1 a2
        refine sv_aload_n (i := 0) dX5_apart_99 rfl rfl ?_
        refine sv_iload dX5_apart_100 rfl ?_
        refine sv_sp0 (As := [_]) clX5_52 dX5_apart_102 rfl (Nat.le_of_ble_eq_true rfl) (by decide) (by decide) (c_X5_valuesOf _) ?_
        refine sv_vp0 (As := [_]) clX5_155 dX5_apart_105 ⟨_, rfl, rfl⟩ (by decide) rfl (Nat.le_of_ble_eq_true rfl) (by decide) (by decide) hsh.lt hsh.k (c_X5_differences hsh _ (by omega)) ?_
        refine sv_ireturn dX5_apart_108 rfl ?_
        exact ⟨_, rfl, rfl, rfl, rfl, by unfold sp_apt; rw [if_neg (by omega), if_neg (by intro h; rcases h with h | h <;> omega)]; exact sp_dn_congr q6 q7, q5⟩
      · refine sv_bipush dX5_apart_90 (by decide) ?_
        refine sv_ireturn dX5_apart_92 rfl ?_
        exact ⟨_, rfl, rfl, rfl, rfl, by unfold sp_apt; rw [if_neg (by omega), if_pos (Or.inr (by assumption))], q3.trans hf3.sq⟩
    · refine sv_bipush dX5_apart_69 (by decide) ?_
      refine sv_ireturn dX5_apart_71 rfl ?_
      exact ⟨_, rfl, rfl, rfl, rfl, by unfold sp_apt; rw [if_neg (by omega), if_pos (Or.inl (by assumption))], hf0.sq⟩
  refine sv_aload_n (i := 0) dX5_apart_0 rfl rfl ?_
  refine sv_iload_n (i := 1) dX5_apart_1 rfl rfl ?_
  refine sv_vp0 (As := [_]) clX5_59 dX5_apart_2 ⟨_, rfl, rfl⟩ (by decide) rfl (Nat.le_of_ble_eq_true rfl) (by decide) (by decide) hsh.lt hsh.k (c_X5_slotOf hsh (by first | exact hm | exact hm1 | exact hm2 | rfl | (simp only [sv_u_ne, sv_row_ne, sv_row_eq, ne_eq, Nat.add_left_cancel_iff, Nat.reduceEqDiff, not_false_eq_true, Nat.add_eq_left, reduceCtorEq, OfNat.ofNat_ne_zero, OfNat.one_ne_ofNat, OfNat.ofNat_ne_one, one_ne_zero, Nat.succ_ne_self]; first | exact hm | rfl) | (simp [sv_u_ne, sv_row_ne, sv_row_eq]; done) | (simp [sv_u_ne, sv_row_ne, sv_row_eq]; exact hm)) _ (by omega) hw.c) ?_
  have hst := sp_slot_spec m k
  have hsp := sp_slot_spec m p
  have hcc := hw.c
  refine sv_istore_n (i := 3) dX5_apart_5 rfl (by decide) rfl ?_
  refine sv_aload_n (i := 0) dX5_apart_6 rfl rfl ?_
  refine sv_iload_n (i := 2) dX5_apart_7 rfl rfl ?_
  refine sv_vp0 (As := [_]) clX5_59 dX5_apart_8 ⟨_, rfl, rfl⟩ (by decide) rfl (Nat.le_of_ble_eq_true rfl) (by decide) (by decide) hsh.lt hsh.k (c_X5_slotOf hsh (by first | exact hm | exact hm1 | exact hm2 | rfl | (simp only [sv_u_ne, sv_row_ne, sv_row_eq, ne_eq, Nat.add_left_cancel_iff, Nat.reduceEqDiff, not_false_eq_true, Nat.add_eq_left, reduceCtorEq, OfNat.ofNat_ne_zero, OfNat.one_ne_ofNat, OfNat.ofNat_ne_one, one_ne_zero, Nat.succ_ne_self]; first | exact hm | rfl) | (simp [sv_u_ne, sv_row_ne, sv_row_eq]; done) | (simp [sv_u_ne, sv_row_ne, sv_row_eq]; exact hm)) _ (by omega) hw.c) ?_
  refine sv_istore dX5_apart_11 (by decide) rfl ?_
  refine sv_iload_n (i := 3) dX5_apart_13 rfl rfl ?_
  refine sv_iconst dX5_apart_14 ?_
  refine sv_icmp_eq (tgt := 24) dX5_apart_15 (by decide) (by first | omega | exact hin _ _ | decide | (simp [sv_u, sv_row]; omega) | (simp [sv_u, sv_row]; exact hin _ _) | exact hin1 _ _ | (simp [sv_u, sv_row]; exact hin1 _ _)) (by first | omega | exact hin _ _ | decide | (simp [sv_u, sv_row]; omega) | (simp [sv_u, sv_row]; exact hin _ _) | exact hin1 _ _ | (simp [sv_u, sv_row]; exact hin1 _ _)) (fun h_15 => ?_) (fun h_15 => ?_)
  · refine sv_bipush dX5_apart_24 (by decide) ?_
    refine sv_ireturn dX5_apart_26 rfl ?_
    exact ⟨_, rfl, rfl, rfl, rfl, by unfold sp_apt; rw [if_pos (by omega)], sp_sq.rf⟩
  · refine sv_iload dX5_apart_18 rfl ?_
    refine sv_iconst dX5_apart_20 ?_
    refine sv_icmp_ne (tgt := 27) dX5_apart_21 (by decide) (by first | omega | exact hin _ _ | decide | (simp [sv_u, sv_row]; omega) | (simp [sv_u, sv_row]; exact hin _ _) | exact hin1 _ _ | (simp [sv_u, sv_row]; exact hin1 _ _)) (by first | omega | exact hin _ _ | decide | (simp [sv_u, sv_row]; omega) | (simp [sv_u, sv_row]; exact hin _ _) | exact hin1 _ _ | (simp [sv_u, sv_row]; exact hin1 _ _)) (fun h_21 => ?_) (fun h_21 => ?_)
    · have hslk : sp_slot m k ≠ -1 := by omega
      have hslp : sp_slot m p ≠ -1 := by omega
      obtain ⟨s0, s1, s2⟩ := sp_slot_in hslk
      obtain ⟨t0, t1, t2⟩ := sp_slot_in hslp
      have hfk := hw.frm s0 s1
      have hfp := hw.frm t0 t1
      have hnk := hw.num s0 s1
      have hnp := hw.num t0 t1
      have hcm := hw.cm
      refine sv_aload_n (i := 0) dX5_apart_27 rfl rfl ?_
      refine sv_iload_n (i := 3) dX5_apart_28 rfl rfl ?_
      refine sv_iconst dX5_apart_29 ?_
      refine sv_vp0 (As := [_, _]) clX5_38 dX5_apart_30 ⟨_, rfl, rfl⟩ (by decide) rfl (Nat.le_of_ble_eq_true rfl) (by decide) (by decide) hsh.lt hsh.k (c_X5_of hsh (by first | exact hm | exact hm1 | exact hm2 | rfl | (simp only [sv_u_ne, sv_row_ne, sv_row_eq, ne_eq, Nat.add_left_cancel_iff, Nat.reduceEqDiff, not_false_eq_true, Nat.add_eq_left, reduceCtorEq, OfNat.ofNat_ne_zero, OfNat.one_ne_ofNat, OfNat.ofNat_ne_one, one_ne_zero, Nat.succ_ne_self]; first | exact hm | rfl) | (simp [sv_u_ne, sv_row_ne, sv_row_eq]; done) | (simp [sv_u_ne, sv_row_ne, sv_row_eq]; exact hm)) _ _ (by omega)) ?_
      refine sv_aload_n (i := 0) dX5_apart_33 rfl rfl ?_
      refine sv_iload dX5_apart_34 rfl ?_
      refine sv_iconst dX5_apart_36 ?_
      refine sv_vp0 (As := [_, _]) clX5_38 dX5_apart_37 ⟨_, rfl, rfl⟩ (by decide) rfl (Nat.le_of_ble_eq_true rfl) (by decide) (by decide) hsh.lt hsh.k (c_X5_of hsh (by first | exact hm | exact hm1 | exact hm2 | rfl | (simp only [sv_u_ne, sv_row_ne, sv_row_eq, ne_eq, Nat.add_left_cancel_iff, Nat.reduceEqDiff, not_false_eq_true, Nat.add_eq_left, reduceCtorEq, OfNat.ofNat_ne_zero, OfNat.one_ne_ofNat, OfNat.ofNat_ne_one, one_ne_zero, Nat.succ_ne_self]; first | exact hm | rfl) | (simp [sv_u_ne, sv_row_ne, sv_row_eq]; done) | (simp [sv_u_ne, sv_row_ne, sv_row_eq]; exact hm)) _ _ (by omega)) ?_
      refine sv_icmp_le (tgt := 52) dX5_apart_40 (by decide) (by omega) (by omega) (fun h_40 => ?_) (fun h_40 => ?_)
      · refine sv_aload_n (i := 0) dX5_apart_52 rfl rfl ?_
        refine sv_iload dX5_apart_53 rfl ?_
        refine sv_iconst dX5_apart_55 ?_
        refine sv_vp0 (As := [_, _]) clX5_38 dX5_apart_56 ⟨_, rfl, rfl⟩ (by decide) rfl (Nat.le_of_ble_eq_true rfl) (by decide) (by decide) hsh.lt hsh.k (c_X5_of hsh (by first | exact hm | exact hm1 | exact hm2 | rfl | (simp only [sv_u_ne, sv_row_ne, sv_row_eq, ne_eq, Nat.add_left_cancel_iff, Nat.reduceEqDiff, not_false_eq_true, Nat.add_eq_left, reduceCtorEq, OfNat.ofNat_ne_zero, OfNat.one_ne_ofNat, OfNat.ofNat_ne_one, one_ne_zero, Nat.succ_ne_self]; first | exact hm | rfl) | (simp [sv_u_ne, sv_row_ne, sv_row_eq]; done) | (simp [sv_u_ne, sv_row_ne, sv_row_eq]; exact hm)) _ _ (by omega)) ?_
        refine sv_cast (h59 (by assumption) (by assumption)) rfl rfl rfl ?_ ?_ rfl
        · rfl
        · exact congrArg (fun z => [sv_i z]) (by omega)
      · refine sv_aload_n (i := 0) dX5_apart_43 rfl rfl ?_
        refine sv_iload_n (i := 3) dX5_apart_44 rfl rfl ?_
        refine sv_iconst dX5_apart_45 ?_
        refine sv_vp0 (As := [_, _]) clX5_38 dX5_apart_46 ⟨_, rfl, rfl⟩ (by decide) rfl (Nat.le_of_ble_eq_true rfl) (by decide) (by decide) hsh.lt hsh.k (c_X5_of hsh (by first | exact hm | exact hm1 | exact hm2 | rfl | (simp only [sv_u_ne, sv_row_ne, sv_row_eq, ne_eq, Nat.add_left_cancel_iff, Nat.reduceEqDiff, not_false_eq_true, Nat.add_eq_left, reduceCtorEq, OfNat.ofNat_ne_zero, OfNat.one_ne_ofNat, OfNat.ofNat_ne_one, one_ne_zero, Nat.succ_ne_self]; first | exact hm | rfl) | (simp [sv_u_ne, sv_row_ne, sv_row_eq]; done) | (simp [sv_u_ne, sv_row_ne, sv_row_eq]; exact hm)) _ _ (by omega)) ?_
        refine sv_goto (tgt := 59) dX5_apart_49 (by decide) ?_
        refine sv_cast (h59 (by assumption) (by assumption)) rfl rfl rfl ?_ ?_ rfl
        · rfl
        · exact congrArg (fun z => [sv_i z]) (by omega)
    · refine sv_bipush dX5_apart_24 (by decide) ?_
      refine sv_ireturn dX5_apart_26 rfl ?_
      exact ⟨_, rfl, rfl, rfl, rfl, by unfold sp_apt; rw [if_pos (by omega)], sp_sq.rf⟩
set_option maxRecDepth 100000 in
set_option maxHeartbeats 4000000 in
theorem c_X5_isInChain {X : sv_X} {S : sv_S} {f : sv_F} {r : sv_R} {g : sv_G} {o : Nat} {L : Int} {c : Int → Int} (hsh : sv_M5 S r o) (hL : f o 7 = L) (hc : f (o + 4) = c) (hL2 : 0 ≤ L ∧ L ≤ 24) (x : Int) (hx : sv_in x) : sv_C X 0 MX5_isInChain 0 0 [sv_r o, sv_i x] S f r g (sv_qp (some (sv_i (if sp_any (fun j => c j = x) L.toNat = true then 1 else 0))) S f r g) := by
  refine sv_met (by decide) (by simp [lg_sl, sv_cv, va_rf, Value.category]) ?_
  refine sv_fr fun hin => ?_
  subst hL; subst hc
  have lp : ∀ (k : Nat) (d : Int) (i : Int), f o 7 - i < (k : Int) → (0 ≤ i ∧ i ≤ f o 7) → (d = if sp_any (fun j => f (o + 4) j = x) i.toNat = true then 1 else 0) → sv_T X (sv_rm 0 0 0) MX5_isInChain (sv_Zm X 0 0 (sv_qp (some (sv_i (if sp_any (fun j => f (o + 4) j = x) (f o 7).toNat = true then 1 else 0))) S f r g)) 0 0 4 [some (sv_r o), some (sv_i x), some (sv_i d), some (sv_i i)] [] S (f) r g := by
    intro k
    induction k with
    | zero =>
      intro d i hk h1 hd
      exact absurd hk (by omega)
    | succ k ih =>
      intro d i hk h1 hd
      subst hd
      refine sv_iload_n (i := 3) dX5_isInChain_4 rfl rfl ?_
      refine sv_aload_n (i := 0) dX5_isInChain_5 rfl rfl ?_
      refine sv_getI (kz := 7) flX5_56 dX5_isInChain_6 rfl rfl hsh.lt hsh.k ?_
      refine sv_icmp_ge (tgt := 38) dX5_isInChain_9 (by decide) (by first | omega | exact hin _ _ | decide | (simp [sv_u, sv_row]; omega) | (simp [sv_u, sv_row]; exact hin _ _) | exact hin1 _ _ | (simp [sv_u, sv_row]; exact hin1 _ _)) (by first | omega | exact hin _ _ | decide | (simp [sv_u, sv_row]; omega) | (simp [sv_u, sv_row]; exact hin _ _) | exact hin1 _ _ | (simp [sv_u, sv_row]; exact hin1 _ _)) (fun h_9 => ?_) (fun h_9 => ?_)
      · refine sv_iload_n (i := 2) dX5_isInChain_38 rfl rfl ?_
        refine sv_zreturn dX5_isInChain_39 rfl (sv_b01 _) ?_
        exact ⟨by rw [show i = f o 7 by omega], rfl, rfl, rfl, rfl⟩
      · refine sv_iload_n (i := 2) dX5_isInChain_12 rfl rfl ?_
        refine sv_bif_ne (tgt := 26) dX5_isInChain_13 (by decide) (fun h_13 => ?_) (fun h_13 => ?_)
        · refine sv_iconst dX5_isInChain_26 ?_
          refine sv_goto (tgt := 31) dX5_isInChain_27 (by decide) ?_
          refine sv_istore_n (i := 2) dX5_isInChain_31 rfl (by decide) rfl ?_
          refine sv_iinc dX5_isInChain_32 rfl (by decide) rfl ?_
          refine sv_goto (tgt := 4) dX5_isInChain_35 (by decide) ?_
          refine ih _ (i + 1) (by omega) (by omega) ?_
          rw [sp_any_s (q := (fun j => f (o + 4) j = x)) (by omega)]
          first
            | (rw [h_13]; simp; done)
            | simp [h_13, h_23]
        · refine sv_aload_n (i := 0) dX5_isInChain_16 rfl rfl ?_
          refine sv_getR (kz := 5) flX5_19 dX5_isInChain_17 rfl rfl hsh.lt hsh.k hsh.r4 ?_
          refine sv_iload_n (i := 3) dX5_isInChain_20 rfl rfl ?_
          refine sv_iald dX5_isInChain_21 hsh.l4 hsh.s4 (by omega) ?_
          refine sv_iload_n (i := 1) dX5_isInChain_22 rfl rfl ?_
          refine sv_icmp_ne (tgt := 30) dX5_isInChain_23 (by decide) (by first | omega | exact hin _ _ | decide | (simp [sv_u, sv_row]; omega) | (simp [sv_u, sv_row]; exact hin _ _) | exact hin1 _ _ | (simp [sv_u, sv_row]; exact hin1 _ _)) (by first | omega | exact hin _ _ | decide | (simp [sv_u, sv_row]; omega) | (simp [sv_u, sv_row]; exact hin _ _) | exact hin1 _ _ | (simp [sv_u, sv_row]; exact hin1 _ _)) (fun h_23 => ?_) (fun h_23 => ?_)
          · refine sv_iconst dX5_isInChain_30 ?_
            refine sv_istore_n (i := 2) dX5_isInChain_31 rfl (by decide) rfl ?_
            refine sv_iinc dX5_isInChain_32 rfl (by decide) rfl ?_
            refine sv_goto (tgt := 4) dX5_isInChain_35 (by decide) ?_
            refine ih _ (i + 1) (by omega) (by omega) ?_
            rw [sp_any_s (q := (fun j => f (o + 4) j = x)) (by omega)]
            first
              | (rw [h_13]; simp; done)
              | simp [h_13, h_23]
          · refine sv_iconst dX5_isInChain_26 ?_
            refine sv_goto (tgt := 31) dX5_isInChain_27 (by decide) ?_
            refine sv_istore_n (i := 2) dX5_isInChain_31 rfl (by decide) rfl ?_
            refine sv_iinc dX5_isInChain_32 rfl (by decide) rfl ?_
            refine sv_goto (tgt := 4) dX5_isInChain_35 (by decide) ?_
            refine ih _ (i + 1) (by omega) (by omega) ?_
            rw [sp_any_s (q := (fun j => f (o + 4) j = x)) (by omega)]
            first
              | (rw [h_13]; simp; done)
              | simp [h_13, h_23]
  refine sv_iconst dX5_isInChain_0 ?_
  refine sv_istore_n (i := 2) dX5_isInChain_1 rfl (by decide) rfl ?_
  refine sv_iconst dX5_isInChain_2 ?_
  refine sv_istore_n (i := 3) dX5_isInChain_3 rfl (by decide) rfl ?_
  exact lp (f o 7 + 1).toNat 0 0 (by omega) (by omega) rfl
