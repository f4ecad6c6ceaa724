theorem sp_pack_m0 : sp_pack sp_m0 = sp_m0 := by
  unfold sp_pack
  rw [show (sp_m0 580).toNat = 0 from rfl]
  rfl
set_option maxRecDepth 100000 in
set_option maxHeartbeats 4000000 in
theorem sv_begin2 {X : sv_X} (hLL : X.2.2.2.1.2.1 ≤ 2048) {S : sv_S} {f : sv_F} {r : sv_R} {g : sv_G} {kp mp : Int → Nat} {kq : Int → Int → Nat} (hW : sv_JW S r f sp_m0 0 (fun _ => sp_m0) 0 (fun _ => 0) kp mp kq) (hS : sv_JS S f) (hg : lw_g (f 478) sp_m0) (hq : lw_q (f 479) sp_m0) : sv_T X room_1 sv_ML (sv_Zl X) 480 5128 22 [some (sv_w X.2.2.2.1.1), some (sv_r 0), some (sv_r 478), some (sv_r 479), none, none, none, none, none, none] [] S (f) r g := by
  have p64 : ∀ (f : sv_F) (r : sv_R) (g : sv_G), sv_J S r f sp_m0 → sv_JS S f → lw_g (f 478) sp_m0 → lw_q (f 479) sp_m0 → sv_T X room_1 sv_ML (sv_Zl X) 480 5128 64 [some (sv_w X.2.2.2.1.1), some (sv_r 0), some (sv_r 478), some (sv_r 479), none, none, none, none, none, none] [] S (f) r g := by
    intro f r g hJ hS hg hq
    refine sv_aload_n (i := 1) dL_law_64 rfl rfl ?_
    refine sv_vi0 (As := []) clL_125 dL_law_65 ⟨_, rfl, rfl⟩ (by decide) rfl (Nat.le_of_ble_eq_true rfl) (by decide) (by decide) hJ.k.1 hJ.k.2 (J_nearest hJ) (fun b5 f5 hf5 => ?_)
    obtain ⟨hb5, hJ, hx5⟩ := hf5
    have hS := hS.hi hx5
    have hg : lw_g (f5 478) sp_m0 := by rw [hx5 478 (by decide)]; exact hg
    have hq : lw_q (f5 479) sp_m0 := by rw [hx5 479 (by decide)]; exact hq
    refine sv_iconst dL_law_68 ?_
    refine sv_icmp_neT (tgt := 108) dL_law_69 (by decide) (hb5.trans (by decide +kernel)) ?_
    refine sv_aload_n (i := 1) dL_law_72 rfl rfl ?_
    refine sv_vk0 (As := []) clL_128 dL_law_73 ⟨_, rfl, rfl⟩ (by decide) rfl (Nat.le_of_ble_eq_true rfl) (by decide) (by decide) hJ.k.1 hJ.k.2 (J_pack hJ) (fun b6 f6 r6 hf6 => ?_)
    obtain ⟨hx6, hb6, hJ⟩ := hf6
    rw [sp_pack_m0] at hb6 hJ
    have hS := hS.hi hx6
    have hg : lw_g (f6 478) sp_m0 := by rw [hx6 478 (by decide)]; exact hg
    have hq : lw_q (f6 479) sp_m0 := by rw [hx6 479 (by decide)]; exact hq
    refine sv_if_ne (tgt := 108) dL_law_76 (by decide) (by unfold sv_in; omega) (fun h_76 => absurd h_76 (by omega)) (fun h_76 => ?_)
    refine sv_aload_n (i := 1) dL_law_79 rfl rfl ?_
    refine sv_iconst dL_law_80 ?_
    refine sv_iconst dL_law_81 ?_
    refine sv_iconst dL_law_82 ?_
    refine sv_vi0 (As := [_, _, _]) clL_131 dL_law_83 ⟨_, rfl, rfl⟩ (by decide) rfl (Nat.le_of_ble_eq_true rfl) (by decide) (by decide) hJ.k.1 hJ.k.2 (J_cause hJ 0 0 0 (by decide) (by decide) (by decide)) (fun b7 f7 hf7 => ?_)
    obtain ⟨hb7, hJ, hx7⟩ := hf7
    have hS := hS.hi hx7
    have hg : lw_g (f7 478) sp_m0 := by rw [hx7 478 (by decide)]; exact hg
    have hq : lw_q (f7 479) sp_m0 := by rw [hx7 479 (by decide)]; exact hq
    refine sv_bipush dL_law_86 (by decide) ?_
    refine sv_icmp_neT (tgt := 108) dL_law_88 (by decide) (hb7.trans (by decide +kernel)) ?_
    refine sv_aload_n (i := 1) dL_law_91 rfl rfl ?_
    refine sv_aload_n (i := 2) dL_law_92 rfl rfl ?_
    refine sv_si0 (As := [_, _]) clL_134 dL_law_93 rfl (Nat.le_of_ble_eq_true rfl) (by decide) (by decide) (c_L_isGame hJ hS hg hq) (fun b8 f8 hf8 => ?_)
    obtain ⟨hb8, hL8⟩ := hf8
    obtain ⟨m8, hJ, hS, hg, hq⟩ := hL8
    refine sv_if_eq (tgt := 108) dL_law_96 (by decide) (by unfold sv_in; omega) (fun h_96 => absurd h_96 (by omega)) (fun h_96 => ?_)
    refine sv_aload_n (i := 1) dL_law_99 rfl rfl ?_
    refine sv_aload_n (i := 2) dL_law_100 rfl rfl ?_
    refine sv_aload_n (i := 3) dL_law_101 rfl rfl ?_
    refine sv_sq0 (As := [_, _, _]) clL_138 dL_law_102 rfl (Nat.le_of_ble_eq_true rfl) (by decide) (by decide) (c_L_areKept hJ hS hg hq) (fun rv S2 f9 r9 g9 hq9 => ?_)
    obtain ⟨a2, rfl, ha2, hL9⟩ := hq9
    refine sv_if_ne (tgt := 110) dL_law_105 (by decide) (by unfold sv_in; omega) (fun _ => ?_) (fun h => absurd h (by omega))
    refine sv_iconst dL_law_110 ?_
    refine sv_istore dL_law_111 (by decide) rfl ?_
    exact sv_castk (sv_loop hLL 27 0 S2 f9 r9 g9 (by omega) (by omega) hL9) rfl rfl rfl rfl rfl rfl rfl rfl
  refine sv_aload_n (i := 1) dL_law_22 rfl rfl ?_
  refine sv_iconst dL_law_23 ?_
  refine sv_vk0 (As := [_]) clL_52 dL_law_24 ⟨_, rfl, rfl⟩ (by decide) rfl (Nat.le_of_ble_eq_true rfl) (by decide) (by decide) hW.2.1.lt hW.2.1.k (J0_load hW (by decide) (sp_m0_slot 0)) (fun b1 f1 r1 hf1 => ?_)
  obtain ⟨hb1, ef1, er1⟩ := hf1
  have hW : sv_JW S r1 f1 sp_m0 0 (fun _ => sp_m0) 0 (fun _ => 0) kp mp kq := by rw [ef1, er1]; exact hW
  have hS : sv_JS S f1 := by rw [ef1]; exact hS
  have hg : lw_g (f1 478) sp_m0 := by rw [ef1]; exact hg
  have hq : lw_q (f1 479) sp_m0 := by rw [ef1]; exact hq
  refine sv_bipush dL_law_27 (by decide) ?_
  refine sv_icmp_neT (tgt := 108) dL_law_29 (by decide) hb1 ?_
  refine sv_aload_n (i := 1) dL_law_32 rfl rfl ?_
  refine sv_iconst dL_law_33 ?_
  refine sv_iconst dL_law_34 ?_
  refine sv_vk0 (As := [_, _]) clL_115 dL_law_35 ⟨_, rfl, rfl⟩ (by decide) rfl (Nat.le_of_ble_eq_true rfl) (by decide) (by decide) hW.2.1.lt hW.2.1.k (J0_drop hW (by decide) (Or.inr rfl) (sp_m0_slot 0)) (fun b2 f2 r2 hf2 => ?_)
  obtain ⟨hb2, ef2, er2⟩ := hf2
  have hW : sv_JW S r2 f2 sp_m0 0 (fun _ => sp_m0) 0 (fun _ => 0) kp mp kq := by rw [ef2, er2]; exact hW
  have hS : sv_JS S f2 := by rw [ef2]; exact hS
  have hg : lw_g (f2 478) sp_m0 := by rw [ef2]; exact hg
  have hq : lw_q (f2 479) sp_m0 := by rw [ef2]; exact hq
  refine sv_bipush dL_law_38 (by decide) ?_
  refine sv_icmp_neT (tgt := 108) dL_law_40 (by decide) hb2 ?_
  refine sv_aload_n (i := 1) dL_law_43 rfl rfl ?_
  refine sv_iconst dL_law_44 ?_
  refine sv_iconst dL_law_45 ?_
  refine sv_iconst dL_law_46 ?_
  refine sv_vk0 (As := [_, _, _]) clL_119 dL_law_47 ⟨_, rfl, rfl⟩ (by decide) rfl (Nat.le_of_ble_eq_true rfl) (by decide) (by decide) hW.2.1.lt hW.2.1.k (J0_alter hW (by decide) (by decide) (by decide) (sp_m0_slot 0)) (fun b3 f3 r3 hf3 => ?_)
  obtain ⟨hb3, ef3, er3⟩ := hf3
  have hW : sv_JW S r3 f3 sp_m0 0 (fun _ => sp_m0) 0 (fun _ => 0) kp mp kq := by rw [ef3, er3]; exact hW
  have hS : sv_JS S f3 := by rw [ef3]; exact hS
  have hg : lw_g (f3 478) sp_m0 := by rw [ef3]; exact hg
  have hq : lw_q (f3 479) sp_m0 := by rw [ef3]; exact hq
  refine sv_bipush dL_law_50 (by decide) ?_
  refine sv_icmp_neT (tgt := 108) dL_law_52 (by decide) hb3 ?_
  refine sv_aload_n (i := 1) dL_law_55 rfl rfl ?_
  refine sv_vk0 (As := []) clL_122 dL_law_56 ⟨_, rfl, rfl⟩ (by decide) rfl (Nat.le_of_ble_eq_true rfl) (by decide) (by decide) hW.2.1.lt hW.2.1.k (J_undo hW rfl) (fun b4 f4 r4 hf4 => ?_)
  obtain ⟨hb4, ef4, er4⟩ := hf4
  have hW : sv_JW S r4 f4 sp_m0 0 (fun _ => sp_m0) 0 (fun _ => 0) kp mp kq := by rw [ef4, er4]; exact hW
  have hS : sv_JS S f4 := by rw [ef4]; exact hS
  have hg : lw_g (f4 478) sp_m0 := by rw [ef4]; exact hg
  have hq : lw_q (f4 479) sp_m0 := by rw [ef4]; exact hq
  refine sv_bipush dL_law_59 (by decide) ?_
  refine sv_icmp_neT (tgt := 108) dL_law_61 (by decide) hb4 ?_
  exact p64 _ _ _ ⟨_, _, _, _, _, _, _, hW⟩ hS hg hq
set_option maxRecDepth 100000 in
set_option maxHeartbeats 4000000 in
theorem sv_begin {X : sv_X} (hLL : X.2.2.2.1.2.1 ≤ 2048) : sv_T X room_1 sv_ML (sv_Zl X) 0 0 0 [some (sv_w X.2.2.2.1.1), none, none, none, none, none, none, none, none, none] [] ((0, fun _ => (0, 0)) : sv_S) (fun _ _ => 0) (fun _ _ => none) (fun _ _ => 0) := by
  have hb0 : sv_bl ((0, fun _ => (0, 0)) : sv_S) (fun _ _ => 0) (fun _ _ => none) (fun _ _ => 0) := fun x _ => ⟨rfl, rfl, rfl⟩
  refine sv_aO (a := 0) sv_cb4 rfl ⟨List.mem_of_getElem? (i := 60) (by decide +kernel), List.mem_of_getElem? (i := 61) (by decide +kernel), List.mem_of_getElem? (i := 49) (by decide +kernel)⟩ dL_law_0 hb0 ⟨Nat.le_of_ble_eq_true rfl, Nat.le_of_ble_eq_true rfl⟩ (fun S1 zS1 b1 => ?_)
  refine sv_dup dL_law_3 rfl ?_
  refine sv_callI (As := []) (rest := [sv_r 0]) clL_111 (c_X4_init (i := 0) zS1.1 (by rw [zS1.2.1]) b1) ⟨Nat.le_of_ble_eq_true rfl, Nat.le_of_ble_eq_true rfl⟩ ⟨Nat.le_of_ble_eq_true rfl, Nat.le_of_ble_eq_true rfl⟩ rfl (Nat.le_of_ble_eq_true rfl) dL_law_4 (fun rv S2 f2 r2 g2 hq2 => ?_)
  obtain ⟨rfl, y1, y2, hve, hmo, hre, hsc, hh, hv, hu0, hl0, ht0, -, rfl, b2⟩ := hq2
  refine sv_astore_n (i := 1) dL_law_7 rfl (by decide) rfl ?_
  refine sv_bipush dL_law_8 (by decide) ?_
  refine sv_aF (a := 478) (by omega) rfl (by decide) dL_law_10 (fun x hx => (b2 x hx).1) ⟨Nat.le_of_ble_eq_true rfl, Nat.le_of_ble_eq_true rfl⟩ sv_arI (fun S3 z3 k3 e3 => ?_)
  refine sv_astore_n (i := 2) dL_law_12 rfl (by decide) rfl ?_
  refine sv_bipush dL_law_13 (by decide) ?_
  refine sv_aF (a := 479) z3 rfl (by decide) dL_law_15 (fun x hx => (b2 x (by omega)).1) ⟨Nat.le_of_ble_eq_true rfl, Nat.le_of_ble_eq_true rfl⟩ sv_arI (fun S4 z4 k4 e4 => ?_)
  refine sv_astore_n (i := 3) dL_law_17 rfl (by decide) rfl ?_
  have hm0 : sp_wt sp_m0 ∧ sp_wg sp_m0 := sp_m0_ok
  have hW2 : sv_JW S2 r2 f2 sp_m0 0 (fun _ => sp_m0) 0 (fun _ => 0) (sv_kp 1) (sv_mp 0) (sv_kq 0) := by
    refine ⟨⟨hm0.1, hm0.2, by decide, fun i a b => by omega, by decide⟩, hve, hre, hsc, hmo, hh, ?_, ?_, hu0, fun i a b => by omega, hl0, ht0⟩
    · exact ⟨by decide, fun p a b => by unfold sv_fd; omega, fun i a b => by unfold sv_mp; omega⟩
    · obtain ⟨v1, v2, v3, v4, v5, v6, v7⟩ := hv
      refine ⟨v1, v2, v3, v4, fun j a b => ?_, v6, v7, fun s a b => ?_⟩
      · have b' : j < 8 := by have : sp_m0 582 = 1 := rfl; omega
        show f2 (0 + 2) j = _
        rw [v5]
        unfold sp_m0
        rw [if_neg (by omega), if_neg (by omega), if_neg (by omega), if_neg (by omega)]
      · have : sp_m0 580 = 0 := rfl; omega
  have hS34 : ∀ x, x < S2.1 → S4.2 x = S2.2 x := fun x hx => by rw [e4 x (by omega), e3 x (by omega)]
  have hW4 := hW2.gr (S' := S4) (by omega) hS34
  have h478 : f2 478 = fun _ => 0 := (b2 478 (by omega)).1
  have h479 : f2 479 = fun _ => 0 := (b2 479 (by omega)).1
  refine sv_aload_n (i := 2) dL_law_18 rfl rfl ?_
  refine sv_sv0 (As := [_]) clL_112 dL_law_19 rfl (Nat.le_of_ble_eq_true rfl) (by decide) (by decide) (c_L_begins (a := 478) (n := 20) ⟨by omega, by rw [e4 _ (by omega)]; exact k3⟩ (by decide)) (fun f5 hf5 => ?_)
  have h5 : ∀ x, x ≠ 478 → f5 x = f2 x := fun x hx => by rw [hf5, sv_u_ne hx, sv_u_ne hx, sv_u_ne hx, sv_u_ne hx]
  have h5g : ∀ j, f5 478 j = if j = 15 then 1 else if j = 14 then 4 else if j = 13 then -1 else if j = 12 then 1 else 0 := fun j => by
    rw [hf5]; simp only [sv_u, h478]; simp
  refine sv_castk (sv_begin2 hLL (hW4.hi fun x hx => h5 x (by omega)) ⟨by omega, by rw [e4 _ (by omega)]; exact k3, k4, fun x hx => by rw [h5 x (by omega)]; exact (b2 x (by omega)).1⟩ ?_ (by rw [h5 479 (by decide), h479]; exact lw_q_0)) rfl rfl rfl rfl rfl rfl rfl rfl
  refine ⟨fun j j0 j1 => ?_, by rw [h5g]; decide, by rw [h5g]; decide, by rw [h5g]; decide, by rw [h5g]; decide, by rw [h5g]; decide⟩
  have : sp_m0 582 = 1 := rfl
  rw [h5g, if_neg (by omega), if_neg (by omega), if_neg (by omega), if_neg (by omega)]
  unfold sp_m0
  rw [if_neg (by omega), if_neg (by omega), if_neg (by omega), if_neg (by omega)]
