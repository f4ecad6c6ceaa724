set_option maxRecDepth 100000 in
set_option maxHeartbeats 4000000 in
theorem c_X5_slotOf {X : sv_X} {S : sv_S} {f : sv_F} {r : sv_R} {g : sv_G} {o : Nat} {m : Int → Int} (hsh : sv_M5 S r o) (hm : f (o + 1) = m) (n : Int) (hn : sv_in n) (hc : 0 ≤ m 580 ∧ m 580 ≤ 20) : sv_C X 1 MX5_slotOf 0 0 [sv_r o, sv_i n] S f r g (sv_qp (some (sv_i (sp_slot m n))) S f r g) := by
  refine sv_met (by decide) (by simp [lg_sl, sv_cv, va_rf, Value.category]) ?_
  refine sv_fr fun hin => ?_
  subst hm
  have lp : ∀ (k : Nat) (s : Int), f (o + 1) 580 - s < (k : Int) → (0 ≤ s ∧ s ≤ f (o + 1) 580) → (∀ j : Int, 0 ≤ j → j < s → f (o + 1) (29 * j) ≠ n) → sv_T X (sv_rm 1 0 0) MX5_slotOf (sv_Zm X 0 0 (sv_qp (some (sv_i (sp_slot (f (o + 1)) n))) S f r g)) 0 0 2 [some (sv_r o), some (sv_i n), some (sv_i s)] [] S (f) r g := by
    intro k
    induction k with
    | zero =>
      intro s hk h1 h2
      exact absurd hk (by omega)
    | succ k ih =>
      intro s hk h1 h2
      refine sv_iload_n (i := 2) dX5_slotOf_2 rfl rfl ?_
      refine sv_aload_n (i := 0) dX5_slotOf_3 rfl rfl ?_
      refine sv_getR (kz := 0) flX5_7 dX5_slotOf_4 rfl rfl hsh.lt hsh.k hsh.r1 ?_
      refine sv_sipush dX5_slotOf_7 (by decide) ?_
      refine sv_iald dX5_slotOf_10 hsh.l1 hsh.s1 (by omega) ?_
      refine sv_icmp_ge (tgt := 32) dX5_slotOf_11 (by decide) (by first | omega | exact hin _ _ | decide | (simp [sv_u, sv_row]; omega) | (simp [sv_u, sv_row]; exact hin _ _) | exact hin1 _ _ | (simp [sv_u, sv_row]; exact hin1 _ _)) (by first | omega | exact hin _ _ | decide | (simp [sv_u, sv_row]; omega) | (simp [sv_u, sv_row]; exact hin _ _) | exact hin1 _ _ | (simp [sv_u, sv_row]; exact hin1 _ _)) (fun h_11 => ?_) (fun h_11 => ?_)
      · refine sv_iconst dX5_slotOf_32 ?_
        refine sv_ireturn dX5_slotOf_33 rfl ?_
        exact ⟨by rw [sp_slot_none (fun j a b => h2 j a (by omega))], rfl, rfl, rfl, rfl⟩
      · refine sv_aload_n (i := 0) dX5_slotOf_14 rfl rfl ?_
        refine sv_iload_n (i := 2) dX5_slotOf_15 rfl rfl ?_
        refine sv_iconst dX5_slotOf_16 ?_
        refine sv_vp0 (As := [_, _]) clX5_38 dX5_slotOf_17 ⟨_, rfl, rfl⟩ (by decide) rfl (Nat.le_of_ble_eq_true rfl) (by decide) (by decide) hsh.lt hsh.k (c_X5_of hsh (by first | exact hm | rfl | (simp only [sv_u_ne, sv_row_ne, sv_row_eq, ne_eq, Nat.add_left_cancel_iff, Nat.reduceEqDiff, not_false_eq_true, Nat.add_eq_left, reduceCtorEq, OfNat.ofNat_ne_zero, OfNat.one_ne_ofNat, OfNat.ofNat_ne_one, one_ne_zero, Nat.succ_ne_self]; first | exact hm | rfl) | (simp [sv_u_ne, sv_row_ne, sv_row_eq]; done) | (simp [sv_u_ne, sv_row_ne, sv_row_eq]; exact hm)) _ _ (by omega)) ?_
        refine sv_iload_n (i := 1) dX5_slotOf_20 rfl rfl ?_
        refine sv_icmp_ne (tgt := 26) dX5_slotOf_21 (by decide) (by first | omega | exact hin _ _ | decide | (simp [sv_u, sv_row]; omega) | (simp [sv_u, sv_row]; exact hin _ _) | exact hin1 _ _ | (simp [sv_u, sv_row]; exact hin1 _ _)) (by first | omega | exact hin _ _ | decide | (simp [sv_u, sv_row]; omega) | (simp [sv_u, sv_row]; exact hin _ _) | exact hin1 _ _ | (simp [sv_u, sv_row]; exact hin1 _ _)) (fun h_21 => ?_) (fun h_21 => ?_)
        · refine sv_iinc dX5_slotOf_26 rfl (by decide) rfl ?_
          refine sv_goto (tgt := 2) dX5_slotOf_29 (by decide) ?_
          exact ih _ (by omega) (by omega) (fun j a b => by
            by_cases hj : j = s
            · subst hj; rw [show (29 : Int) * j = 29 * j + 0 by omega]; assumption
            · exact h2 j a (by omega))
        · refine sv_iload_n (i := 2) dX5_slotOf_24 rfl rfl ?_
          refine sv_ireturn dX5_slotOf_25 rfl ?_
          exact ⟨by rw [sp_slot_eq (s := s) (by omega) (by omega) (by rw [show (29 : Int) * s = 29 * s + 0 by omega]; assumption) h2], rfl, rfl, rfl, rfl⟩
  refine sv_iconst dX5_slotOf_0 ?_
  refine sv_istore_n (i := 2) dX5_slotOf_1 rfl (by decide) rfl ?_
  exact lp (f (o + 1) 580 + 1).toNat 0 (by omega) (by omega) (fun j a b => by omega)
