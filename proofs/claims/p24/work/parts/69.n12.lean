/-- the places of a vault stand apart -/
def sv_sep (V q fi se sc tx vs rs : Nat) (fd : Int → Nat) : Prop := (∀ x, (x = V ∨ x = sc ∨ x = tx ∨ x = vs ∨ x = fi ∨ x = se) → (x < q ∨ q + 64 ≤ x) ∧ x ≠ rs ∧ ∀ p, 0 ≤ p → p < 20 → x ≠ fd p) ∧ (rs < q ∨ q + 64 ≤ rs) ∧ (∀ p, 0 ≤ p → p < 20 → fd p < q ∨ q + 64 ≤ fd p) ∧ (V ≠ sc ∧ V ≠ tx ∧ V ≠ vs ∧ V ≠ fi ∧ V ≠ se) ∧ (sc ≠ tx ∧ sc ≠ vs ∧ sc ≠ fi ∧ sc ≠ se) ∧ (tx ≠ vs ∧ tx ≠ fi ∧ tx ≠ se) ∧ (vs ≠ fi ∧ vs ≠ se) ∧ fi ≠ se
/-- only what a reading writes has changed -/
def sv_un (rs fi se : Nat) (fd : Int → Nat) (f f' : sv_F) : Prop := ∀ x, x ≠ rs → (∀ p, 0 ≤ p → p < 20 → x ≠ fd p) → x ≠ fi → x ≠ se → f' x = f x
section SVSEP
variable {V q fi se sc tx vs rs : Nat} {fd : Int → Nat} {f f' f2 : sv_F}
theorem sv_un.tr (h : sv_un rs fi se fd f f') (h2 : sv_un rs fi se fd f' f2) : sv_un rs fi se fd f f2 := fun x a b c d => (h2 x a b c d).trans (h x a b c d)
theorem sv_sep.un (h : sv_sep V q fi se sc tx vs rs fd) (hu : sv_un rs fi se fd f f') : f' V = f V ∧ f' sc = f sc ∧ f' tx = f tx ∧ f' vs = f vs := by
  obtain ⟨h1, h2, h3, ⟨a1, a2, a3, a4, a5⟩, ⟨b1, b2, b3, b4⟩, ⟨c1, c2, c3⟩, ⟨d1, d2⟩, e⟩ := h
  exact ⟨hu V (h1 V (by simp)).2.1 (h1 V (by simp)).2.2 a4 a5, hu sc (h1 sc (by simp)).2.1 (h1 sc (by simp)).2.2 b3 b4, hu tx (h1 tx (by simp)).2.1 (h1 tx (by simp)).2.2 c2 c3, hu vs (h1 vs (by simp)).2.1 (h1 vs (by simp)).2.2 d1 d2⟩
end SVSEP
set_option maxRecDepth 100000 in
set_option maxHeartbeats 4000000 in
theorem c_X4_nearest {X : sv_X} {S : sv_S} {f : sv_F} {r : sv_R} {g : sv_G} {V q d fo rs fi se pa sc : Nat} {kp fd : Int → Nat} {m : Int → Int} (hve : sv_K4 S r V q d fi se pa sc) (hmo : sv_K1 S r q kp) (hmv : sv_V1 f q kp m) (hre : sv_K2 S r d fo rs fd) (hw : sp_wt m) {tx vs : Nat} (hsc : sv_K3 S r sc tx vs) (hp : sv_sep V q fi se sc tx vs rs fd) (hg : sp_wg m) : sv_C X 5 MX4_nearest 0 0 [sv_r V] S f r g (sv_qi (fun a f' => a = sp_nst m ∧ sv_un rs fi se fd f f') S r g) := by
  refine sv_met (by decide) (by simp [lg_sl, sv_cv, va_rf, Value.category]) ?_
  refine sv_fr fun hin => ?_
  have hcc := hw.c
  refine sv_aload_n (i := 0) dX4_nearest_0 rfl rfl ?_
  refine sv_getR (kz := 4) flX4_34 dX4_nearest_1 rfl rfl hve.lt hve.k hve.r4 ?_
  refine sv_aload_n (i := 0) dX4_nearest_4 rfl rfl ?_
  refine sv_getR (kz := 0) flX4_10 dX4_nearest_5 rfl rfl hve.lt hve.k hve.r0 ?_
  refine sv_vv0 (As := [_]) clX4_85 dX4_nearest_8 ⟨_, rfl, rfl⟩ (by decide) rfl (Nat.le_of_ble_eq_true rfl) (by decide) (by decide) hre.lt hre.k (c_X2_readAll hmo hmv hre hp.2.2.1 hw hp.2.1) (fun f1 hf1 => ?_)
  obtain ⟨hr1, hv2⟩ := hf1
  have hun : sv_un rs fi se fd f f1 := fun x a b _ _ => hr1 x a b
  have hv1 : sv_V1 f1 q kp m := sv_V1.congr hmo hcc hmv fun x x0 x1 => hr1 x (by have := hp.2.1; omega) fun p p0 p1 => by have := hp.2.2.1 p p0 p1; omega
  obtain ⟨u1, u2, u3, u4⟩ := hp.un hun
  refine sv_aload_n (i := 0) dX4_nearest_11 rfl rfl ?_
  refine sv_vi0 (As := []) clX4_177 dX4_nearest_12 ⟨_, rfl, rfl⟩ (by decide) rfl (Nat.le_of_ble_eq_true rfl) (by decide) (by decide) hve.lt hve.k (c_X4_nearestToGame hve hmo hv1 hre hw hv2 (fun p p0 p1 => (hp.1 fi (by simp)).2.2 p p0 p1) (hp.1 fi (by simp)).2.1 (hp.1 fi (by simp)).1 hg) (fun a f2 hf2 => ?_)
  refine sv_ireturn dX4_nearest_15 rfl ?_
  exact ⟨_, rfl, rfl, rfl, rfl, hf2.1, hun.tr fun x _ _ c _ => hf2.2 x c⟩
set_option maxRecDepth 100000 in
set_option maxHeartbeats 4000000 in
theorem c_X4_count {X : sv_X} {S : sv_S} {f : sv_F} {r : sv_R} {g : sv_G} {V q d fo rs fi se pa sc : Nat} {kp fd : Int → Nat} {m : Int → Int} (hve : sv_K4 S r V q d fi se pa sc) (hmo : sv_K1 S r q kp) (hmv : sv_V1 f q kp m) (hre : sv_K2 S r d fo rs fd) (hw : sp_wt m) {tx vs : Nat} (hsc : sv_K3 S r sc tx vs) (hp : sv_sep V q fi se sc tx vs rs fd) (hg : sp_wg m) (w : Int) (hwi : sv_in w) : sv_C X 5 MX4_count 0 0 [sv_r V, sv_i w] S f r g (sv_qi (fun a f' => a = sp_count m (f V 2) (f sc 1) w ∧ sv_un rs fi se fd f f') S r g) := by
  refine sv_met (by decide) (by simp [lg_sl, sv_cv, va_rf, Value.category]) ?_
  refine sv_fr fun hin => ?_
  have hcc := hw.c
  refine sv_iload_n (i := 1) dX4_count_0 rfl rfl ?_
  refine sv_if_lt (tgt := 10) dX4_count_1 (by decide) (by first | omega | exact hin _ _ | decide | (simp [sv_u, sv_row]; omega) | (simp [sv_u, sv_row]; exact hin _ _) | exact hin1 _ _ | (simp [sv_u, sv_row]; exact hin1 _ _)) (fun h_1 => ?_) (fun h_1 => ?_)
  · refine sv_bipush dX4_count_10 (by decide) ?_
    refine sv_ireturn dX4_count_12 rfl ?_
    exact ⟨_, rfl, rfl, rfl, rfl, by unfold sp_count; repeat rw [if_neg (by omega)], fun _ _ _ _ _ => rfl⟩
  · refine sv_iload_n (i := 1) dX4_count_4 rfl rfl ?_
    refine sv_bipush dX4_count_5 (by decide) ?_
    refine sv_icmp_lt (tgt := 13) dX4_count_7 (by decide) (by first | omega | exact hin _ _ | decide | (simp [sv_u, sv_row]; omega) | (simp [sv_u, sv_row]; exact hin _ _) | exact hin1 _ _ | (simp [sv_u, sv_row]; exact hin1 _ _)) (by first | omega | exact hin _ _ | decide | (simp [sv_u, sv_row]; omega) | (simp [sv_u, sv_row]; exact hin _ _) | exact hin1 _ _ | (simp [sv_u, sv_row]; exact hin1 _ _)) (fun h_7 => ?_) (fun h_7 => ?_)
    · refine sv_aload_n (i := 0) dX4_count_13 rfl rfl ?_
      refine sv_getR (kz := 4) flX4_34 dX4_count_14 rfl rfl hve.lt hve.k hve.r4 ?_
      refine sv_aload_n (i := 0) dX4_count_17 rfl rfl ?_
      refine sv_getR (kz := 0) flX4_10 dX4_count_18 rfl rfl hve.lt hve.k hve.r0 ?_
      refine sv_vv0 (As := [_]) clX4_85 dX4_count_21 ⟨_, rfl, rfl⟩ (by decide) rfl (Nat.le_of_ble_eq_true rfl) (by decide) (by decide) hre.lt hre.k (c_X2_readAll hmo hmv hre hp.2.2.1 hw hp.2.1) (fun f1 hf1 => ?_)
      obtain ⟨hr1, hv2⟩ := hf1
      have hun : sv_un rs fi se fd f f1 := fun x a b _ _ => hr1 x a b
      have hv1 : sv_V1 f1 q kp m := sv_V1.congr hmo hcc hmv fun x x0 x1 => hr1 x (by have := hp.2.1; omega) fun p p0 p1 => by have := hp.2.2.1 p p0 p1; omega
      obtain ⟨u1, u2, u3, u4⟩ := hp.un hun
      refine sv_aload_n (i := 0) dX4_count_24 rfl rfl ?_
      refine sv_iload_n (i := 1) dX4_count_25 rfl rfl ?_
      refine sv_vp0 (As := [_]) clX4_180 dX4_count_26 ⟨_, rfl, rfl⟩ (by decide) rfl (Nat.le_of_ble_eq_true rfl) (by decide) (by decide) hve.lt hve.k (c_X4_tally hve hmo hv1 hre hw hv2 hsc hg w (by omega)) ?_
      refine sv_ireturn dX4_count_29 rfl ?_
      exact ⟨_, rfl, rfl, rfl, rfl, by rw [u1, u2], hun⟩
    · refine sv_bipush dX4_count_10 (by decide) ?_
      refine sv_ireturn dX4_count_12 rfl ?_
      exact ⟨_, rfl, rfl, rfl, rfl, by unfold sp_count; repeat rw [if_neg (by omega)], fun _ _ _ _ _ => rfl⟩
set_option maxRecDepth 100000 in
set_option maxHeartbeats 4000000 in
theorem c_X4_kept {X : sv_X} {S : sv_S} {f : sv_F} {r : sv_R} {g : sv_G} {V q d fo rs fi se pa sc : Nat} {kp fd : Int → Nat} {m : Int → Int} (hve : sv_K4 S r V q d fi se pa sc) (hmo : sv_K1 S r q kp) (hmv : sv_V1 f q kp m) (hre : sv_K2 S r d fo rs fd) (hw : sp_wt m) {tx vs : Nat} (hsc : sv_K3 S r sc tx vs) (hp : sv_sep V q fi se sc tx vs rs fd) (k w : Int) (hk : sv_in k) (hwi : sv_in w) : sv_C X 5 MX4_kept 0 0 [sv_r V, sv_i k, sv_i w] S f r g (sv_qi (fun a f' => a = (if k < 0 ∨ ¬ (0 ≤ w ∧ w ≤ 7) then -2 else if sp_slot m k = -1 then -1 else sp_part m (sp_slot m k) w) ∧ sv_un rs fi se fd f f') S r g) := by
  refine sv_met (by decide) (by simp [lg_sl, sv_cv, va_rf, Value.category]) ?_
  refine sv_fr fun hin => ?_
  have hcc := hw.c
  refine sv_iload_n (i := 1) dX4_kept_0 rfl rfl ?_
  refine sv_if_lt (tgt := 14) dX4_kept_1 (by decide) (by first | omega | exact hin _ _ | decide | (simp [sv_u, sv_row]; omega) | (simp [sv_u, sv_row]; exact hin _ _) | exact hin1 _ _ | (simp [sv_u, sv_row]; exact hin1 _ _)) (fun h_1 => ?_) (fun h_1 => ?_)
  · refine sv_bipush dX4_kept_14 (by decide) ?_
    refine sv_ireturn dX4_kept_16 rfl ?_
    exact ⟨_, rfl, rfl, rfl, rfl, by rw [if_pos (by omega)], fun _ _ _ _ _ => rfl⟩
  · refine sv_iload_n (i := 2) dX4_kept_4 rfl rfl ?_
    refine sv_if_lt (tgt := 14) dX4_kept_5 (by decide) (by first | omega | exact hin _ _ | decide | (simp [sv_u, sv_row]; omega) | (simp [sv_u, sv_row]; exact hin _ _) | exact hin1 _ _ | (simp [sv_u, sv_row]; exact hin1 _ _)) (fun h_5 => ?_) (fun h_5 => ?_)
    · refine sv_bipush dX4_kept_14 (by decide) ?_
      refine sv_ireturn dX4_kept_16 rfl ?_
      exact ⟨_, rfl, rfl, rfl, rfl, by rw [if_pos (by omega)], fun _ _ _ _ _ => rfl⟩
    · refine sv_iload_n (i := 2) dX4_kept_8 rfl rfl ?_
      refine sv_bipush dX4_kept_9 (by decide) ?_
      refine sv_icmp_lt (tgt := 17) dX4_kept_11 (by decide) (by first | omega | exact hin _ _ | decide | (simp [sv_u, sv_row]; omega) | (simp [sv_u, sv_row]; exact hin _ _) | exact hin1 _ _ | (simp [sv_u, sv_row]; exact hin1 _ _)) (by first | omega | exact hin _ _ | decide | (simp [sv_u, sv_row]; omega) | (simp [sv_u, sv_row]; exact hin _ _) | exact hin1 _ _ | (simp [sv_u, sv_row]; exact hin1 _ _)) (fun h_11 => ?_) (fun h_11 => ?_)
      · refine sv_aload_n (i := 0) dX4_kept_17 rfl rfl ?_
        refine sv_getR (kz := 0) flX4_10 dX4_kept_18 rfl rfl hve.lt hve.k hve.r0 ?_
        refine sv_iload_n (i := 1) dX4_kept_21 rfl rfl ?_
        refine sv_vp0 (As := [_]) clX4_124 dX4_kept_22 ⟨_, rfl, rfl⟩ (by decide) rfl (Nat.le_of_ble_eq_true rfl) (by decide) (by decide) hmo.lt hmo.k (c_X1_placeOf hmo hmv hcc _ hk) ?_
        have hst := sp_slot_spec m k
        refine sv_istore_n (i := 3) dX4_kept_25 rfl (by decide) rfl ?_
        refine sv_iload_n (i := 3) dX4_kept_26 rfl rfl ?_
        refine sv_iconst dX4_kept_27 ?_
        refine sv_icmp_ne (tgt := 33) dX4_kept_28 (by decide) (by first | omega | exact hin _ _ | decide | (simp [sv_u, sv_row]; omega) | (simp [sv_u, sv_row]; exact hin _ _) | exact hin1 _ _ | (simp [sv_u, sv_row]; exact hin1 _ _)) (by first | omega | exact hin _ _ | decide | (simp [sv_u, sv_row]; omega) | (simp [sv_u, sv_row]; exact hin _ _) | exact hin1 _ _ | (simp [sv_u, sv_row]; exact hin1 _ _)) (fun h_28 => ?_) (fun h_28 => ?_)
        · have hsn : sp_slot m k ≠ -1 := by assumption
          obtain ⟨s0, s1, s2⟩ := sp_slot_in hsn
          refine sv_aload_n (i := 0) dX4_kept_33 rfl rfl ?_
          refine sv_getR (kz := 4) flX4_34 dX4_kept_34 rfl rfl hve.lt hve.k hve.r4 ?_
          refine sv_aload_n (i := 0) dX4_kept_37 rfl rfl ?_
          refine sv_getR (kz := 0) flX4_10 dX4_kept_38 rfl rfl hve.lt hve.k hve.r0 ?_
          refine sv_vv0 (As := [_]) clX4_85 dX4_kept_41 ⟨_, rfl, rfl⟩ (by decide) rfl (Nat.le_of_ble_eq_true rfl) (by decide) (by decide) hre.lt hre.k (c_X2_readAll hmo hmv hre hp.2.2.1 hw hp.2.1) (fun f1 hf1 => ?_)
          obtain ⟨hr1, hv2⟩ := hf1
          have hun : sv_un rs fi se fd f f1 := fun x a b _ _ => hr1 x a b
          have hv1 : sv_V1 f1 q kp m := sv_V1.congr hmo hcc hmv fun x x0 x1 => hr1 x (by have := hp.2.1; omega) fun p p0 p1 => by have := hp.2.2.1 p p0 p1; omega
          obtain ⟨u1, u2, u3, u4⟩ := hp.un hun
          refine sv_aload_n (i := 0) dX4_kept_44 rfl rfl ?_
          refine sv_iload_n (i := 3) dX4_kept_45 rfl rfl ?_
          refine sv_iload_n (i := 2) dX4_kept_46 rfl rfl ?_
          refine sv_vp0 (As := [_, _]) clX4_160 dX4_kept_47 ⟨_, rfl, rfl⟩ (by decide) rfl (Nat.le_of_ble_eq_true rfl) (by decide) (by decide) hve.lt hve.k (c_X4_propertyOf hve hmo hv1 hre hw hv2 _ w ⟨s0, s1⟩ (by omega)) ?_
          refine sv_ireturn dX4_kept_50 rfl ?_
          exact ⟨_, rfl, rfl, rfl, rfl, by rw [if_neg (by omega), if_neg hsn], hun⟩
        · refine sv_iconst dX4_kept_31 ?_
          refine sv_ireturn dX4_kept_32 rfl ?_
          exact ⟨_, rfl, rfl, rfl, rfl, by rw [if_neg (by omega), if_pos (by assumption)], fun _ _ _ _ _ => rfl⟩
      · refine sv_bipush dX4_kept_14 (by decide) ?_
        refine sv_ireturn dX4_kept_16 rfl ?_
        exact ⟨_, rfl, rfl, rfl, rfl, by rw [if_pos (by omega)], fun _ _ _ _ _ => rfl⟩
