set_option maxRecDepth 100000 in
set_option maxHeartbeats 4000000 in
theorem c_X4_raiseRead {X : sv_X} {S : sv_S} {f : sv_F} {r : sv_R} {g : sv_G} {V q d fo rs fi se pa sc : Nat} {kp fd : Int → Nat} {m : Int → Int} (hve : sv_K4 S r V q d fi se pa sc) (hmo : sv_K1 S r q kp) (hmv : sv_V1 f q kp m) (hre : sv_K2 S r d fo rs fd) (hw : sp_wt m) {a : Nat} (ha : a < S.1 ∧ S.2 a = (6, 12)) (s F : Int) (hs : 0 ≤ s ∧ s < m 580) (hF : m (29 * s + 1) ≤ F ∧ F ≤ 3) (hR : sp_R m (m (29 * s)) = -1) (hrd : ∀ j, 0 ≤ j → j < 6 + 2 * m (29 * s + 1) → f (fd s) j = sp_V m (m (29 * s)) j) (hda : a ≠ fd s) (hdq : a < q ∨ q + 64 ≤ a) : sv_C X 2 MX4_raiseRead 0 0 [sv_r V, sv_i s, sv_i F, sv_r a] S f r g (sv_qv (fun f' => (∀ x, x ≠ a → f' x = f x) ∧ ∀ j, 0 ≤ j → j < 6 + 2 * F → f' a j = sp_rz (sp_V m (m (29 * s))) (m (29 * s + 1)) F j) S r g) := by
  refine sv_met (by decide) (by simp [lg_sl, sv_cv, va_rf, Value.category]) ?_
  refine sv_fr fun hin => ?_
  have hcc := hw.c
  have hfr := hw.frm hs.1 hs.2
  have hsl := hw.slot hs.1 hs.2
  have hk := hmo.o (p := s) (by omega) (by omega)
  have hkb := hmo.b (p := s) (by omega) (by omega)
  have hkv := hmv.o (s := s) (by omega) (by omega)
  have hb := hre.a (p := s) (by omega) (by omega)
  have hokB := sp_V_ok' hw hR
  rw [hsl] at hokB
  have hcp : ∀ j, 0 ≤ j → j < 6 + 2 * m (29 * s + 1) → sv_cp f a (fd s) 12 a j = sp_V m (m (29 * s)) j := fun j j0 j1 => by
    rw [← hrd j j0 j1]; simp [sv_cp]; omega
  have hok2 : sp_ok (sv_cp f a (fd s) 12 a) (6 + 2 * m (29 * s + 1)) := fun j j0 j1 => by rw [hcp j j0 j1]; exact hokB j j0 j1
  have hcn : ∀ x, x ≠ a → sv_cp f a (fd s) 12 x = f x := fun x hx => by funext y; simp [sv_cp, hx]
  refine sv_aload_n (i := 0) dX4_raiseRead_0 rfl rfl ?_
  refine sv_getR (kz := 4) flX4_34 dX4_raiseRead_1 rfl rfl hve.lt hve.k hve.r4 ?_
  refine sv_getR (kz := 0) flX4_201 dX4_raiseRead_4 rfl rfl hre.lt hre.k hre.r1 ?_
  refine sv_iload_n (i := 1) dX4_raiseRead_7 rfl rfl ?_
  refine sv_aald (t := 2) (n := 20) dX4_raiseRead_8 hre.l1 (by decide) hre.s1 (by omega) (hre.e (p := s) (by omega) (by omega)) ?_
  refine sv_iconst dX4_raiseRead_9 ?_
  refine sv_aload_n (i := 3) dX4_raiseRead_10 rfl rfl ?_
  refine sv_iconst dX4_raiseRead_11 ?_
  refine sv_bipush dX4_raiseRead_12 (by decide) ?_
  refine sv_copy (List.mem_of_getElem? (i := 271) (by decide +kernel)) sv_copyw hb.1 hb.2 ha.1 ha.2 (by decide) (Nat.le_of_ble_eq_true rfl) (by decide) dX4_raiseRead_14 ?_
  refine sv_aload_n (i := 3) dX4_raiseRead_17 rfl rfl ?_
  refine sv_aload_n (i := 0) dX4_raiseRead_18 rfl rfl ?_
  refine sv_getR (kz := 0) flX4_10 dX4_raiseRead_19 rfl rfl hve.lt hve.k hve.r0 ?_
  refine sv_getR (kz := 6) flX4_89 dX4_raiseRead_22 rfl rfl hmo.lt hmo.k hmo.r3 ?_
  refine sv_iload_n (i := 1) dX4_raiseRead_25 rfl rfl ?_
  refine sv_aald (t := 0) (n := 20) dX4_raiseRead_26 hmo.l3 (by decide) hmo.s3 (by omega) (hmo.e (p := s) (by omega) (by omega)) ?_
  refine sv_getI (kz := 1) flX4_98 dX4_raiseRead_27 rfl rfl hk.lt hk.k ?_
  rw [hcn _ (by omega), hkv.form]
  refine sv_iload_n (i := 2) dX4_raiseRead_30 rfl rfl ?_
  refine sv_sv0 (As := [_, _, _]) clX4_75 dX4_raiseRead_31 rfl (Nat.le_of_ble_eq_true rfl) (by decide) (by decide) (c_X4_raiseValues ha (by omega) (by omega) (fun _ => hok2)) (fun f2 hf2 => ?_)
  refine sv_return dX4_raiseRead_34 rfl ?_
  rw [hf2]
  refine ⟨rfl, rfl, rfl, rfl, fun x hx => by rw [sv_row_ne hx, hcn x hx], fun j j0 j1 => ?_⟩
  rw [sv_row_eq]
  exact sp_rz_congr hfr.1 hF.1 hF.2 hcp j j0 j1
set_option maxRecDepth 100000 in
set_option maxHeartbeats 4000000 in
theorem c_X4_distance {X : sv_X} {S : sv_S} {f : sv_F} {r : sv_R} {g : sv_G} {V q d fo rs fi se pa sc : Nat} {kp fd : Int → Nat} {m : Int → Int} (hve : sv_K4 S r V q d fi se pa sc) (hmo : sv_K1 S r q kp) (hmv : sv_V1 f q kp m) (hre : sv_K2 S r d fo rs fd) (hw : sp_wt m) {b : Nat} (hb : b < S.1 ∧ S.2 b = (6, 12)) (s F : Int) (hs : 0 ≤ s ∧ s < m 580) (hF : m (29 * s + 1) ≤ F ∧ F ≤ 3) (hR : sp_R m (m (29 * s)) = -1) (hrd : ∀ j, 0 ≤ j → j < 6 + 2 * m (29 * s + 1) → f (fd s) j = sp_V m (m (29 * s)) j) (hda : fi ≠ fd s) (hdq : fi < q ∨ q + 64 ≤ fi) (hbf : b ≠ fi) : sv_C X 3 MX4_distance 0 0 [sv_r V, sv_i s, sv_i F, sv_r b] S f r g (sv_qi (fun a f' => a = sp_dn (sp_rz (sp_V m (m (29 * s))) (m (29 * s + 1)) F) (f b) (6 + 2 * F).toNat ∧ (∀ x, x ≠ fi → f' x = f x)) S r g) := by
  refine sv_met (by decide) (by simp [lg_sl, sv_cv, va_rf, Value.category]) ?_
  refine sv_fr fun hin => ?_
  have hfr := hw.frm hs.1 hs.2
  refine sv_aload_n (i := 0) dX4_distance_0 rfl rfl ?_
  refine sv_iload_n (i := 1) dX4_distance_1 rfl rfl ?_
  refine sv_iload_n (i := 2) dX4_distance_2 rfl rfl ?_
  refine sv_aload_n (i := 0) dX4_distance_3 rfl rfl ?_
  refine sv_getR (kz := 5) flX4_38 dX4_distance_4 rfl rfl hve.lt hve.k hve.r5 ?_
  refine sv_vv0 (As := [_, _, _]) clX4_113 dX4_distance_7 ⟨_, rfl, rfl⟩ (by decide) rfl (Nat.le_of_ble_eq_true rfl) (by decide) (by decide) hve.lt hve.k (c_X4_raiseRead hve hmo hmv hre hw ⟨hve.l5, hve.s5⟩ s F hs hF hR hrd hda hdq) (fun f1 hf1 => ?_)
  obtain ⟨h3, h4⟩ := hf1
  have lp : ∀ (kk : Nat) (i : Nat), 6 + 2 * F - (i : Int) < (kk : Int) → ((i : Int) ≤ 6 + 2 * F) → sv_T X (sv_rm 3 0 0) MX4_distance (sv_Zm X 0 0 (sv_qi (fun a f' => a = sp_dn (sp_rz (sp_V m (m (29 * s))) (m (29 * s + 1)) F) (f b) (6 + 2 * F).toNat ∧ (∀ x, x ≠ fi → f' x = f x)) S r g)) 0 0 16 [some (sv_r V), some (sv_i s), some (sv_i F), some (sv_r b), some (sv_i (sp_dn (sp_rz (sp_V m (m (29 * s))) (m (29 * s + 1)) F) (f b) i)), some (sv_i (i : Nat))] [] S (f1) r g := by
    intro kk
    induction kk with
    | zero =>
      intro i hkk h1
      exact absurd hkk (by omega)
    | succ kk ih =>
      intro i hkk h1
      refine sv_fr fun hin1 => ?_
      refine sv_iload dX4_distance_16 rfl ?_
      refine sv_iload_n (i := 2) dX4_distance_18 rfl rfl ?_
      refine sv_sp0 (As := [_]) clX4_57 dX4_distance_19 rfl (Nat.le_of_ble_eq_true rfl) (by decide) (by decide) (c_X4_sizeOf _) ?_
      refine sv_icmp_ge (tgt := 48) dX4_distance_22 (by decide) (by first | omega | exact hin _ _ | decide | (simp [sv_u, sv_row]; omega) | (simp [sv_u, sv_row]; exact hin _ _) | exact hin1 _ _ | (simp [sv_u, sv_row]; exact hin1 _ _)) (by first | omega | exact hin _ _ | decide | (simp [sv_u, sv_row]; omega) | (simp [sv_u, sv_row]; exact hin _ _) | exact hin1 _ _ | (simp [sv_u, sv_row]; exact hin1 _ _)) (fun h_22 => ?_) (fun h_22 => ?_)
      · refine sv_iload dX4_distance_48 rfl ?_
        refine sv_ireturn dX4_distance_50 rfl ?_
        exact ⟨_, rfl, rfl, rfl, rfl, by rw [show (6 + 2 * F).toNat = i by omega], h3⟩
      · refine sv_aload_n (i := 0) dX4_distance_25 rfl rfl ?_
        refine sv_getR (kz := 5) flX4_38 dX4_distance_26 rfl rfl hve.lt hve.k hve.r5 ?_
        refine sv_iload dX4_distance_29 rfl ?_
        refine sv_iald dX4_distance_31 hve.l5 hve.s5 (by omega) ?_
        refine sv_aload_n (i := 3) dX4_distance_32 rfl rfl ?_
        refine sv_iload dX4_distance_33 rfl ?_
        refine sv_iald dX4_distance_35 hb.1 hb.2 (by omega) ?_
        rw [h3 b hbf, h4 i (by omega) (by omega)]
        refine sv_icmp_eq (tgt := 42) dX4_distance_36 (by decide) (h4 i (by omega) (by omega) ▸ hin1 _ _) (hin _ _) (fun h_36 => ?_) (fun h_36 => ?_)
        · refine sv_iinc dX4_distance_42 rfl (by decide) rfl ?_
          refine sv_goto (tgt := 16) dX4_distance_45 (by decide) ?_
          refine sv_cast (ih (i + 1) (by omega) (by omega)) rfl rfl rfl ?_ rfl rfl
          show [_, _, _, _, some (sv_i (sp_dn _ _ i + (if (sp_rz (sp_V m (m (29 * s))) (m (29 * s + 1)) F) (i : Int) = f b i then 0 else 1))), _] = _
          first | rw [if_pos (by assumption), Int.add_zero]; rfl | rw [if_neg (by assumption)]; rfl
        · refine sv_iinc dX4_distance_39 rfl (by decide) rfl ?_
          refine sv_iinc dX4_distance_42 rfl (by decide) rfl ?_
          refine sv_goto (tgt := 16) dX4_distance_45 (by decide) ?_
          refine sv_cast (ih (i + 1) (by omega) (by omega)) rfl rfl rfl ?_ rfl rfl
          show [_, _, _, _, some (sv_i (sp_dn _ _ i + (if (sp_rz (sp_V m (m (29 * s))) (m (29 * s + 1)) F) (i : Int) = f b i then 0 else 1))), _] = _
          first | rw [if_pos (by assumption), Int.add_zero]; rfl | rw [if_neg (by assumption)]; rfl
  refine sv_iconst dX4_distance_10 ?_
  refine sv_istore dX4_distance_11 (by decide) rfl ?_
  refine sv_iconst dX4_distance_13 ?_
  refine sv_istore dX4_distance_14 (by decide) rfl ?_
  exact lp (6 + 2 * F + 1).toNat 0 (by omega) (by omega)
