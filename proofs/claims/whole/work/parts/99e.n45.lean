set_option maxRecDepth 100000 in
set_option maxHeartbeats 4000000 in
theorem sv_loop {X : sv_X} {S : sv_S} (hL : X.2.2.2.1.2.1 ≤ 2048) : ∀ (kk : Nat) (i : Int) (f : sv_F) (r : sv_R) (g : sv_G), (X.2.2.2.1.2.1 : Int) - i < (kk : Int) → (0 ≤ i ∧ i ≤ (X.2.2.2.1.2.1 : Int) + 4) → sv_IV S r f → sv_T X room_1 sv_ML (sv_Zl X) 488 9499 18 [some (sv_w X.2.2.2.1.1), some (sv_r 0), some (sv_r 478), some (sv_i i)] [] S f r g := by
  intro kk
  induction kk with
  | zero =>
    intro i f r g hkk h1 hI
    refine sv_iload_n (i := 3) dL_law_18 rfl rfl ?_
    refine sv_wload_n (i := 0) dL_law_19 rfl rfl ?_
    refine sv_slen dL_law_20 ?_
    refine sv_iconst dL_law_21 ?_
    refine sv_isub dL_law_22 ?_
    refine sv_icmp_gt (tgt := 688) dL_law_23 (by decide) (by unfold sv_in; omega) (by unfold sv_in; omega) (fun _ => ?_) (fun h => absurd h (by omega))
    refine sv_iconst dL_law_688 ?_
    exact sv_lret dL_law_689 ⟨by decide, by decide⟩
  | succ kk ih =>
    intro i f r g hkk h1 hI
    refine sv_iload_n (i := 3) dL_law_18 rfl rfl ?_
    refine sv_wload_n (i := 0) dL_law_19 rfl rfl ?_
    refine sv_slen dL_law_20 ?_
    refine sv_iconst dL_law_21 ?_
    refine sv_isub dL_law_22 ?_
    refine sv_icmp_gt (tgt := 688) dL_law_23 (by decide) (by unfold sv_in; omega) (by unfold sv_in; omega) (fun h_23 => ?_) (fun h_23 => ?_)
    · refine sv_iconst dL_law_688 ?_
      exact sv_lret dL_law_689 ⟨by decide, by decide⟩
    · refine sv_wload_n (i := 0) dL_law_26 rfl rfl ?_
      refine sv_iload_n (i := 3) dL_law_27 rfl rfl ?_
      refine sv_sld (by omega) dL_law_28 ?_
      refine sv_bipush dL_law_29 (by decide) ?_
      refine sv_iand dL_law_31 (z := (X.2.2.2.1.2.2 i.toNat &&& 31).toInt) (by rw [Int32.ofInt_toInt, Int32.ofInt_toInt]; rfl) ?_
      obtain ⟨m, u, P, tl, t, kp, mp, kq, hW⟩ := hI
      have hk : ∀ (f' : sv_F) (r' : sv_R) (g' : sv_G), sv_IV S r' f' → sv_T X room_1 sv_ML (sv_Zl X) 488 9499 682 [some (sv_w X.2.2.2.1.1), some (sv_r 0), some (sv_r 478), some (sv_i i)] [] S f' r' g' := fun f' r' g' h => by
        refine sv_iinc dL_law_682 rfl (by decide) rfl ?_
        refine sv_goto (tgt := 18) dL_law_685 (by decide) ?_
        exact ih (i + 4) f' r' g' (by omega) (by omega) h
      have hi3 : 0 ≤ i ∧ i + 3 < (X.2.2.2.1.2.1 : Int) := by omega
      have hz := sv_in32 (X.2.2.2.1.2.2 i.toNat &&& 31)
      generalize (X.2.2.2.1.2.2 i.toNat &&& 31).toInt = z at hz ⊢
      by_cases hn : z < 0
      · exact sv_tswd (tgt := 682) dL_law_32 hz (Or.inl hn) (by decide) (hk _ _ _ ⟨_, _, _, _, _, _, _, _, hW⟩)
      by_cases e0 : z = 0
      · exact sv_tsw (off := 100) (tgt := 132) dL_law_32 hz (by omega) (by omega) (by rw [e0]; rfl) (by decide) (L_type hW hi3 hk)
      have l0 : 1 ≤ z := by omega
      by_cases e1 : z = 1
      · exact sv_tsw (off := 123) (tgt := 155) dL_law_32 hz (by omega) (by omega) (by rw [e1]; rfl) (by decide) (L_clear hW hi3 hk)
      have l1 : 2 ≤ z := by omega
      by_cases e2 : z = 2
      · exact sv_tsw (off := 136) (tgt := 168) dL_law_32 hz (by omega) (by omega) (by rw [e2]; rfl) (by decide) (L_play hW hi3 hk)
      have l2 : 3 ≤ z := by omega
      by_cases e3 : z = 3
      · exact sv_tsw (off := 149) (tgt := 181) dL_law_32 hz (by omega) (by omega) (by rw [e3]; rfl) (by decide) (L_raise hW hi3 hk)
      have l3 : 4 ≤ z := by omega
      by_cases e4 : z = 4
      · exact sv_tsw (off := 162) (tgt := 194) dL_law_32 hz (by omega) (by omega) (by rw [e4]; rfl) (by decide) (L_keep hW hi3 hk)
      have l4 : 5 ≤ z := by omega
      by_cases e5 : z = 5
      · exact sv_tsw (off := 175) (tgt := 207) dL_law_32 hz (by omega) (by omega) (by rw [e5]; rfl) (by decide) (L_load hW hi3 hk)
      have l5 : 6 ≤ z := by omega
      by_cases e6 : z = 6
      · exact sv_tsw (off := 198) (tgt := 230) dL_law_32 hz (by omega) (by omega) (by rw [e6]; rfl) (by decide) (L_drop hW hi3 hk)
      have l6 : 7 ≤ z := by omega
      by_cases e7 : z = 7
      · exact sv_tsw (off := 247) (tgt := 279) dL_law_32 hz (by omega) (by omega) (by rw [e7]; rfl) (by decide) (L_alter hW hi3 hk)
      have l7 : 8 ≤ z := by omega
      by_cases e8 : z = 8
      · exact sv_tsw (off := 290) (tgt := 322) dL_law_32 hz (by omega) (by omega) (by rw [e8]; rfl) (by decide) (L_pack hW hi3 hk)
      have l8 : 9 ≤ z := by omega
      by_cases e9 : z = 9
      · exact sv_tsw (off := 303) (tgt := 335) dL_law_32 hz (by omega) (by omega) (by rw [e9]; rfl) (by decide) (L_set hW hi3 hk)
      have l9 : 10 ≤ z := by omega
      by_cases e10 : z = 10
      · exact sv_tsw (off := 336) (tgt := 368) dL_law_32 hz (by omega) (by omega) (by rw [e10]; rfl) (by decide) (L_undo hW hi3 hk)
      have l10 : 11 ≤ z := by omega
      by_cases e11 : z = 11
      · exact sv_tsw (off := 349) (tgt := 381) dL_law_32 hz (by omega) (by omega) (by rw [e11]; rfl) (by decide) (L_value hW hi3 hk)
      have l11 : 12 ≤ z := by omega
      by_cases e12 : z = 12
      · exact sv_tsw (off := 372) (tgt := 404) dL_law_32 hz (by omega) (by omega) (by rw [e12]; rfl) (by decide) (L_kept hW hi3 hk)
      have l12 : 13 ≤ z := by omega
      by_cases e13 : z = 13
      · exact sv_tsw (off := 405) (tgt := 437) dL_law_32 hz (by omega) (by omega) (by rw [e13]; rfl) (by decide) (L_entry hW hi3 hk)
      have l13 : 14 ≤ z := by omega
      by_cases e14 : z = 14
      · exact sv_tsw (off := 448) (tgt := 480) dL_law_32 hz (by omega) (by omega) (by rw [e14]; rfl) (by decide) (L_read hW hi3 hk)
      have l14 : 15 ≤ z := by omega
      by_cases e15 : z = 15
      · exact sv_tsw (off := 491) (tgt := 523) dL_law_32 hz (by omega) (by omega) (by rw [e15]; rfl) (by decide) (L_cause hW hi3 hk)
      have l15 : 16 ≤ z := by omega
      by_cases e16 : z = 16
      · exact sv_tsw (off := 534) (tgt := 566) dL_law_32 hz (by omega) (by omega) (by rw [e16]; rfl) (by decide) (L_apart hW hi3 hk)
      have l16 : 17 ≤ z := by omega
      by_cases e17 : z = 17
      · exact sv_tsw (off := 567) (tgt := 599) dL_law_32 hz (by omega) (by omega) (by rw [e17]; rfl) (by decide) (L_fork hW hi3 hk)
      have l17 : 18 ≤ z := by omega
      by_cases e18 : z = 18
      · exact sv_tsw (off := 600) (tgt := 632) dL_law_32 hz (by omega) (by omega) (by rw [e18]; rfl) (by decide) (L_nearest hW hi3 hk)
      have l18 : 19 ≤ z := by omega
      by_cases e19 : z = 19
      · exact sv_tsw (off := 613) (tgt := 645) dL_law_32 hz (by omega) (by omega) (by rw [e19]; rfl) (by decide) (L_count hW hi3 hk)
      have l19 : 20 ≤ z := by omega
      by_cases e20 : z = 20
      · exact sv_tsw (off := 636) (tgt := 668) dL_law_32 hz (by omega) (by omega) (by rw [e20]; rfl) (by decide) (L_digest hW hi3 hk)
      have l20 : 21 ≤ z := by omega
      exact sv_tswd (tgt := 682) dL_law_32 hz (Or.inr (by omega)) (by decide) (hk _ _ _ ⟨_, _, _, _, _, _, _, _, hW⟩)
theorem sp_m0_ok : sp_wt sp_m0 ∧ sp_wg sp_m0 := by
  have h0 : sp_m0 580 = 0 := rfl
  have h2 : sp_m0 582 = 1 := rfl
  refine ⟨⟨by decide, by decide, fun s a b => by omega, fun s t a b c => by omega, fun s a b => by omega, fun s a b => by omega, fun s t a b => by omega⟩, by decide, ?_, Or.inl rfl, by decide, by decide⟩
  intro j a b
  rw [h2] at b
  show 0 ≤ sp_m0 (583 + j) ∧ sp_m0 (583 + j) ≤ 99
  unfold sp_m0
  rw [if_neg (by omega), if_neg (by omega), if_neg (by omega), if_neg (by omega)]
  decide
set_option maxRecDepth 100000 in
set_option maxHeartbeats 4000000 in
theorem sv_begin {X : sv_X} (hL : X.2.2.2.1.2.1 ≤ 2048) : sv_T X room_1 sv_ML (sv_Zl X) 0 0 0 [some (sv_w X.2.2.2.1.1), none, none, none] [] ((0, fun _ => (0, 0)) : sv_S) (fun _ _ => 0) (fun _ _ => none) (fun _ _ => 0) := by
  have hb0 : sv_bl ((0, fun _ => (0, 0)) : sv_S) (fun _ _ => 0) (fun _ _ => none) (fun _ _ => 0) := fun x _ => ⟨rfl, rfl, rfl⟩
  refine sv_aO (a := 0) sv_cb4 rfl ⟨List.mem_of_getElem? (i := 102) (by decide +kernel), List.mem_of_getElem? (i := 103) (by decide +kernel), List.mem_of_getElem? (i := 90) (by decide +kernel)⟩ dL_law_0 hb0 ⟨Nat.le_of_ble_eq_true rfl, Nat.le_of_ble_eq_true rfl⟩ (fun S1 zS1 b1 => ?_)
  refine sv_dup dL_law_3 rfl ?_
  refine sv_callI (As := []) (rest := [sv_r 0]) clL_9 (c_X4_init (i := 0) zS1.1 (by rw [zS1.2.1]) b1) ⟨Nat.le_of_ble_eq_true rfl, Nat.le_of_ble_eq_true rfl⟩ ⟨Nat.le_of_ble_eq_true rfl, Nat.le_of_ble_eq_true rfl⟩ rfl (Nat.le_of_ble_eq_true rfl) dL_law_4 (fun rv S2 f2 r2 g2 hq2 => ?_)
  obtain ⟨rfl, y1, y2, hve, hmo, hre, hsc, hh, hv, hu0, hl0, ht0, -, rfl, b2⟩ := hq2
  refine sv_astore_n (i := 1) dL_law_7 rfl (by decide) rfl ?_
  refine sv_aO (a := 478) sv_cb5 (by omega) ⟨List.mem_of_getElem? (i := 630) (by decide +kernel), List.mem_of_getElem? (i := 631) (by decide +kernel), List.mem_of_getElem? (i := 95) (by decide +kernel)⟩ dL_law_8 b2 ⟨Nat.le_of_ble_eq_true rfl, Nat.le_of_ble_eq_true rfl⟩ (fun S3 zS3 b3 => ?_)
  refine sv_dup dL_law_11 rfl ?_
  have hf478 : f2 478 = (fun _ => 0) := (b2 478 (by omega)).1
  refine sv_callI (As := []) (rest := [sv_r 478]) clL_12 (c_X5_init (i := 478) zS3.1 (by rw [zS3.2.1]) b3) ⟨Nat.le_of_ble_eq_true rfl, Nat.le_of_ble_eq_true rfl⟩ ⟨Nat.le_of_ble_eq_true rfl, Nat.le_of_ble_eq_true rfl⟩ rfl (Nat.le_of_ble_eq_true rfl) dL_law_12 (fun rv S4 f4 r4 g4 hq4 => ?_)
  obtain ⟨rfl, w1, w2, hsh, w4, w5, w6, w7, rfl, b4⟩ := hq4
  obtain ⟨z1, z2, z3⟩ := zS3
  refine sv_astore_n (i := 2) dL_law_15 rfl (by decide) rfl ?_
  refine sv_iconst dL_law_16 ?_
  refine sv_istore_n (i := 3) dL_law_17 rfl (by decide) rfl ?_
  have hle : S2.1 ≤ S4.1 := by omega
  have hS : ∀ x, x < S2.1 → S4.2 x = S2.2 x := fun x h => by rw [w2 x (by omega), z3 x (by omega)]
  have hr : ∀ x, x < 478 → r4 x = r2 x := fun x h => (w4 x h).2
  have hf : ∀ x, x < 478 → f4 x = f2 x := fun x h => (w4 x h).1
  have hm0 : sp_wt sp_m0 ∧ sp_wg sp_m0 := sp_m0_ok
  have hIV : sv_IV S4 r4 f4 := by
    refine ⟨sp_m0, 0, fun _ => sp_m0, 0, fun _ => 0, sv_kp 1, sv_mp 0, sv_kq 0, ⟨hm0.1, hm0.2, by decide, fun i a b => by omega, by decide⟩, ?_, ?_, ?_, ?_, ?_, ?_, ?_, ?_, fun i a b => by omega, ?_, ?_, hsh, w6, ?_, fun i a b => by omega, ?_, ?_⟩
    · obtain ⟨a1, a2, a3, ⟨a4, a5, a6⟩, a7, a8, ⟨a9, c1, c2⟩, d1, d2, d3⟩ := hve
      unfold sv_K4
      rw [hr 0 (by omega), hS 0 a1, hS _ a5, hS _ c1, hS _ d2]
      exact ⟨by omega, a2, a3, ⟨a4, by omega, a6⟩, a7, a8, ⟨a9, by omega, c2⟩, d1, by omega, d3⟩
    · exact hre.mv hle hS (hr _ (by omega)) (hr _ (by omega))
    · exact hsc.mv hle hS (hr _ (by omega))
    · exact sv_K1.mv hmo hle hS (fun x a b => hr x (by omega))
    · refine ⟨fun i a b => ?_, hh.2⟩
      have hm := hh.x a b 0 (by simp)
      have hmp : sv_mp 0 i + 64 ≤ 478 := by unfold sv_mp; omega
      exact ⟨by rw [hr _ (by omega)]; exact hh.e a b, sv_K1.mv (hh.o a b) hle hS (fun x c d => hr x (by omega)), hh.g a b, hh.x a b, hh.p a b⟩
    · exact ⟨by decide, fun p a b => by unfold sv_fd; omega, fun i a b => by unfold sv_mp; omega⟩
    · obtain ⟨v1, v2, v3, v4, v5, v6, v7⟩ := hv
      unfold sv_V1
      rw [hf 1 (by omega), hf (1 + 1) (by omega), hf (1 + 2) (by omega)]
      refine ⟨v1, v2, v3, v4, fun j a b => ?_, v6, v7, fun s a b => ?_⟩
      · have b' : j < 8 := by have : sp_m0 582 = 1 := rfl; omega
        show f2 (0 + 2) j = _
        rw [v5]
        unfold sp_m0
        rw [if_neg (by omega), if_neg (by omega), if_neg (by omega), if_neg (by omega)]
      · have : sp_m0 580 = 0 := rfl; omega
    · rw [hf 0 (by omega)]; exact hu0
    · rw [hf 66 (by omega)]; exact hl0
    · rw [hf 67 (by omega)]; exact ht0
    · rw [w5, hf478]
    · rw [w5, hf478]
    · exact w7 7 (by omega) (by omega)
  exact sv_castk (sv_loop hL (X.2.2.2.1.2.1 + 1) 0 f4 r4 _ (by omega) (by omega) hIV) rfl rfl rfl rfl rfl rfl rfl rfl
