set_option maxRecDepth 100000 in
set_option maxHeartbeats 4000000 in
theorem L_kept {X : sv_X} {S : sv_S} {f : sv_F} {r : sv_R} {g : sv_G} {m : Int → Int} {u : Int} {P : Int → Int → Int} {tl : Int} {t : Int → Int} {kp mp : Int → Nat} {kq : Int → Int → Nat} {i : Int} (hI : sv_IW S r f m u P tl t kp mp kq) (hi : 0 ≤ i ∧ i + 3 < (X.2.2.2.1.2.1 : Int)) (hk : ∀ (f' : sv_F) (r' : sv_R) (g' : sv_G), sv_IV S r' f' → sv_T X room_1 sv_ML (sv_Zl X) 488 9499 682 [some (sv_w X.2.2.2.1.1), some (sv_r 0), some (sv_r 478), some (sv_i i)] [] S f' r' g') : sv_T X room_1 sv_ML (sv_Zl X) 488 9499 404 [some (sv_w X.2.2.2.1.1), some (sv_r 0), some (sv_r 478), some (sv_i i)] [] S f r g := by
  obtain ⟨⟨hw, hg, hu, hpw, htl⟩, hve, hre, hsc, hmo, hh, hbd, hmv, hVu, hpv, htl1, htt, hsh, hm, hmu, hmP, hm10, hm7⟩ := id hI
  have hp : sv_sep 0 1 92 93 66 67 68 91 (sv_fd 69) := sv_sep0 0
  refine sv_aload_n (i := 1) dL_law_404 rfl rfl ?_
  refine sv_wload_n (i := 0) dL_law_405 rfl rfl ?_
  refine sv_iload_n (i := 3) dL_law_406 rfl rfl ?_
  refine sv_iconst dL_law_407 ?_
  refine sv_iadd dL_law_408 ?_
  refine sv_sld (by omega) dL_law_409 ?_
  refine sv_wload_n (i := 0) dL_law_410 rfl rfl ?_
  refine sv_iload_n (i := 3) dL_law_411 rfl rfl ?_
  refine sv_iconst dL_law_412 ?_
  refine sv_iadd dL_law_413 ?_
  refine sv_sld (by omega) dL_law_414 ?_
  refine sv_vi0 (As := [_, _]) clL_66 dL_law_415 ⟨_, rfl, rfl⟩ (by decide) rfl (Nat.le_of_ble_eq_true rfl) (by decide) (by decide) hve.lt hve.k (c_X4_kept hve hmo hmv hre hw hsc hp _ _ (sv_in32 _) (sv_in32 _)) (fun a f1 hf1 => ?_)
  obtain ⟨ha, hun⟩ := hf1
  have hI := hI.un hun
  obtain ⟨-, -, -, -, -, -, -, -, -, -, -, -, hsh, hm, hmu, hmP, hm10, hm7⟩ := id hI
  refine sv_aload_n (i := 2) dL_law_418 rfl rfl ?_
  refine sv_wload_n (i := 0) dL_law_419 rfl rfl ?_
  refine sv_iload_n (i := 3) dL_law_420 rfl rfl ?_
  refine sv_iconst dL_law_421 ?_
  refine sv_iadd dL_law_422 ?_
  refine sv_sld (by omega) dL_law_423 ?_
  refine sv_wload_n (i := 0) dL_law_424 rfl rfl ?_
  refine sv_iload_n (i := 3) dL_law_425 rfl rfl ?_
  refine sv_iconst dL_law_426 ?_
  refine sv_iadd dL_law_427 ?_
  refine sv_sld (by omega) dL_law_428 ?_
  refine sv_vi0 (As := [_, _]) clL_69 dL_law_429 ⟨_, rfl, rfl⟩ (by decide) rfl (Nat.le_of_ble_eq_true rfl) (by decide) (by decide) hsh.lt hsh.k (c_X5_kept hsh hm hw _ _ (sv_in32 _) (sv_in32 _)) (fun b f2 hf2 => ?_)
  obtain ⟨hb, hsq⟩ := hf2
  have hI := hI.sq hsq
  have hab : a = b := ha.trans hb.symm
  subst hab
  exact sv_icmp_eqs (tgt := 682) dL_law_432 (by decide) (hk _ _ _ ⟨_, _, _, _, _, _, _, _, hI⟩)
set_option maxRecDepth 100000 in
set_option maxHeartbeats 4000000 in
theorem L_read {X : sv_X} {S : sv_S} {f : sv_F} {r : sv_R} {g : sv_G} {m : Int → Int} {u : Int} {P : Int → Int → Int} {tl : Int} {t : Int → Int} {kp mp : Int → Nat} {kq : Int → Int → Nat} {i : Int} (hI : sv_IW S r f m u P tl t kp mp kq) (hi : 0 ≤ i ∧ i + 3 < (X.2.2.2.1.2.1 : Int)) (hk : ∀ (f' : sv_F) (r' : sv_R) (g' : sv_G), sv_IV S r' f' → sv_T X room_1 sv_ML (sv_Zl X) 488 9499 682 [some (sv_w X.2.2.2.1.1), some (sv_r 0), some (sv_r 478), some (sv_i i)] [] S f' r' g') : sv_T X room_1 sv_ML (sv_Zl X) 488 9499 480 [some (sv_w X.2.2.2.1.1), some (sv_r 0), some (sv_r 478), some (sv_i i)] [] S f r g := by
  obtain ⟨⟨hw, hg, hu, hpw, htl⟩, hve, hre, hsc, hmo, hh, hbd, hmv, hVu, hpv, htl1, htt, hsh, hm, hmu, hmP, hm10, hm7⟩ := id hI
  have hp : sv_sep 0 1 92 93 66 67 68 91 (sv_fd 69) := sv_sep0 0
  refine sv_aload_n (i := 1) dL_law_480 rfl rfl ?_
  refine sv_wload_n (i := 0) dL_law_481 rfl rfl ?_
  refine sv_iload_n (i := 3) dL_law_482 rfl rfl ?_
  refine sv_iconst dL_law_483 ?_
  refine sv_iadd dL_law_484 ?_
  refine sv_sld (by omega) dL_law_485 ?_
  refine sv_wload_n (i := 0) dL_law_486 rfl rfl ?_
  refine sv_iload_n (i := 3) dL_law_487 rfl rfl ?_
  refine sv_iconst dL_law_488 ?_
  refine sv_iadd dL_law_489 ?_
  refine sv_sld (by omega) dL_law_490 ?_
  refine sv_wload_n (i := 0) dL_law_491 rfl rfl ?_
  refine sv_iload_n (i := 3) dL_law_492 rfl rfl ?_
  refine sv_iconst dL_law_493 ?_
  refine sv_iadd dL_law_494 ?_
  refine sv_sld (by omega) dL_law_495 ?_
  refine sv_vi0 (As := [_, _, _]) clL_74 dL_law_496 ⟨_, rfl, rfl⟩ (by decide) rfl (Nat.le_of_ble_eq_true rfl) (by decide) (by decide) hve.lt hve.k (c_X4_read hve hmo hmv hre hw hsc hp _ _ _ (sv_in32 _) (sv_in32 _) (sv_in32 _)) (fun a f1 hf1 => ?_)
  obtain ⟨ha, hun⟩ := hf1
  have hI := hI.un hun
  obtain ⟨-, -, -, -, -, -, -, -, -, -, -, -, hsh, hm, hmu, hmP, hm10, hm7⟩ := id hI
  refine sv_aload_n (i := 2) dL_law_499 rfl rfl ?_
  refine sv_wload_n (i := 0) dL_law_500 rfl rfl ?_
  refine sv_iload_n (i := 3) dL_law_501 rfl rfl ?_
  refine sv_iconst dL_law_502 ?_
  refine sv_iadd dL_law_503 ?_
  refine sv_sld (by omega) dL_law_504 ?_
  refine sv_wload_n (i := 0) dL_law_505 rfl rfl ?_
  refine sv_iload_n (i := 3) dL_law_506 rfl rfl ?_
  refine sv_iconst dL_law_507 ?_
  refine sv_iadd dL_law_508 ?_
  refine sv_sld (by omega) dL_law_509 ?_
  refine sv_wload_n (i := 0) dL_law_510 rfl rfl ?_
  refine sv_iload_n (i := 3) dL_law_511 rfl rfl ?_
  refine sv_iconst dL_law_512 ?_
  refine sv_iadd dL_law_513 ?_
  refine sv_sld (by omega) dL_law_514 ?_
  refine sv_vi0 (As := [_, _, _]) clL_77 dL_law_515 ⟨_, rfl, rfl⟩ (by decide) rfl (Nat.le_of_ble_eq_true rfl) (by decide) (by decide) hsh.lt hsh.k (c_X5_read hsh hm hw _ _ _ (sv_in32 _) (sv_in32 _) (sv_in32 _)) (fun b f2 hf2 => ?_)
  obtain ⟨hb, hsq⟩ := hf2
  have hI := hI.sq hsq
  have hab : a = b := ha.trans hb.symm
  subst hab
  exact sv_icmp_eqs (tgt := 682) dL_law_518 (by decide) (hk _ _ _ ⟨_, _, _, _, _, _, _, _, hI⟩)
set_option maxRecDepth 100000 in
set_option maxHeartbeats 4000000 in
theorem L_cause {X : sv_X} {S : sv_S} {f : sv_F} {r : sv_R} {g : sv_G} {m : Int → Int} {u : Int} {P : Int → Int → Int} {tl : Int} {t : Int → Int} {kp mp : Int → Nat} {kq : Int → Int → Nat} {i : Int} (hI : sv_IW S r f m u P tl t kp mp kq) (hi : 0 ≤ i ∧ i + 3 < (X.2.2.2.1.2.1 : Int)) (hk : ∀ (f' : sv_F) (r' : sv_R) (g' : sv_G), sv_IV S r' f' → sv_T X room_1 sv_ML (sv_Zl X) 488 9499 682 [some (sv_w X.2.2.2.1.1), some (sv_r 0), some (sv_r 478), some (sv_i i)] [] S f' r' g') : sv_T X room_1 sv_ML (sv_Zl X) 488 9499 523 [some (sv_w X.2.2.2.1.1), some (sv_r 0), some (sv_r 478), some (sv_i i)] [] S f r g := by
  obtain ⟨⟨hw, hg, hu, hpw, htl⟩, hve, hre, hsc, hmo, hh, hbd, hmv, hVu, hpv, htl1, htt, hsh, hm, hmu, hmP, hm10, hm7⟩ := id hI
  have hp : sv_sep 0 1 92 93 66 67 68 91 (sv_fd 69) := sv_sep0 0
  refine sv_aload_n (i := 1) dL_law_523 rfl rfl ?_
  refine sv_wload_n (i := 0) dL_law_524 rfl rfl ?_
  refine sv_iload_n (i := 3) dL_law_525 rfl rfl ?_
  refine sv_iconst dL_law_526 ?_
  refine sv_iadd dL_law_527 ?_
  refine sv_sld (by omega) dL_law_528 ?_
  refine sv_wload_n (i := 0) dL_law_529 rfl rfl ?_
  refine sv_iload_n (i := 3) dL_law_530 rfl rfl ?_
  refine sv_iconst dL_law_531 ?_
  refine sv_iadd dL_law_532 ?_
  refine sv_sld (by omega) dL_law_533 ?_
  refine sv_wload_n (i := 0) dL_law_534 rfl rfl ?_
  refine sv_iload_n (i := 3) dL_law_535 rfl rfl ?_
  refine sv_iconst dL_law_536 ?_
  refine sv_iadd dL_law_537 ?_
  refine sv_sld (by omega) dL_law_538 ?_
  refine sv_vi0 (As := [_, _, _]) clL_78 dL_law_539 ⟨_, rfl, rfl⟩ (by decide) rfl (Nat.le_of_ble_eq_true rfl) (by decide) (by decide) hve.lt hve.k (c_X4_cause hve hmo hmv hre hw hsc hp _ _ _ (sv_in32 _) (sv_in32 _) (sv_in32 _)) (fun a f1 hf1 => ?_)
  obtain ⟨ha, hun⟩ := hf1
  have hI := hI.un hun
  obtain ⟨-, -, -, -, -, -, -, -, -, -, -, -, hsh, hm, hmu, hmP, hm10, hm7⟩ := id hI
  refine sv_aload_n (i := 2) dL_law_542 rfl rfl ?_
  refine sv_wload_n (i := 0) dL_law_543 rfl rfl ?_
  refine sv_iload_n (i := 3) dL_law_544 rfl rfl ?_
  refine sv_iconst dL_law_545 ?_
  refine sv_iadd dL_law_546 ?_
  refine sv_sld (by omega) dL_law_547 ?_
  refine sv_wload_n (i := 0) dL_law_548 rfl rfl ?_
  refine sv_iload_n (i := 3) dL_law_549 rfl rfl ?_
  refine sv_iconst dL_law_550 ?_
  refine sv_iadd dL_law_551 ?_
  refine sv_sld (by omega) dL_law_552 ?_
  refine sv_wload_n (i := 0) dL_law_553 rfl rfl ?_
  refine sv_iload_n (i := 3) dL_law_554 rfl rfl ?_
  refine sv_iconst dL_law_555 ?_
  refine sv_iadd dL_law_556 ?_
  refine sv_sld (by omega) dL_law_557 ?_
  refine sv_vi0 (As := [_, _, _]) clL_81 dL_law_558 ⟨_, rfl, rfl⟩ (by decide) rfl (Nat.le_of_ble_eq_true rfl) (by decide) (by decide) hsh.lt hsh.k (c_X5_cause hsh hm hw _ _ _ (sv_in32 _) (sv_in32 _) (sv_in32 _)) (fun b f2 hf2 => ?_)
  obtain ⟨hb, hsq⟩ := hf2
  have hI := hI.sq hsq
  have hab : a = b := ha.trans hb.symm
  subst hab
  exact sv_icmp_eqs (tgt := 682) dL_law_561 (by decide) (hk _ _ _ ⟨_, _, _, _, _, _, _, _, hI⟩)
set_option maxRecDepth 100000 in
set_option maxHeartbeats 4000000 in
theorem L_apart {X : sv_X} {S : sv_S} {f : sv_F} {r : sv_R} {g : sv_G} {m : Int → Int} {u : Int} {P : Int → Int → Int} {tl : Int} {t : Int → Int} {kp mp : Int → Nat} {kq : Int → Int → Nat} {i : Int} (hI : sv_IW S r f m u P tl t kp mp kq) (hi : 0 ≤ i ∧ i + 3 < (X.2.2.2.1.2.1 : Int)) (hk : ∀ (f' : sv_F) (r' : sv_R) (g' : sv_G), sv_IV S r' f' → sv_T X room_1 sv_ML (sv_Zl X) 488 9499 682 [some (sv_w X.2.2.2.1.1), some (sv_r 0), some (sv_r 478), some (sv_i i)] [] S f' r' g') : sv_T X room_1 sv_ML (sv_Zl X) 488 9499 566 [some (sv_w X.2.2.2.1.1), some (sv_r 0), some (sv_r 478), some (sv_i i)] [] S f r g := by
  obtain ⟨⟨hw, hg, hu, hpw, htl⟩, hve, hre, hsc, hmo, hh, hbd, hmv, hVu, hpv, htl1, htt, hsh, hm, hmu, hmP, hm10, hm7⟩ := id hI
  have hp : sv_sep 0 1 92 93 66 67 68 91 (sv_fd 69) := sv_sep0 0
  refine sv_aload_n (i := 1) dL_law_566 rfl rfl ?_
  refine sv_wload_n (i := 0) dL_law_567 rfl rfl ?_
  refine sv_iload_n (i := 3) dL_law_568 rfl rfl ?_
  refine sv_iconst dL_law_569 ?_
  refine sv_iadd dL_law_570 ?_
  refine sv_sld (by omega) dL_law_571 ?_
  refine sv_wload_n (i := 0) dL_law_572 rfl rfl ?_
  refine sv_iload_n (i := 3) dL_law_573 rfl rfl ?_
  refine sv_iconst dL_law_574 ?_
  refine sv_iadd dL_law_575 ?_
  refine sv_sld (by omega) dL_law_576 ?_
  refine sv_vi0 (As := [_, _]) clL_82 dL_law_577 ⟨_, rfl, rfl⟩ (by decide) rfl (Nat.le_of_ble_eq_true rfl) (by decide) (by decide) hve.lt hve.k (c_X4_apart hve hmo hmv hre hw hsc hp _ _ (sv_in32 _) (sv_in32 _)) (fun a f1 hf1 => ?_)
  obtain ⟨ha, hun⟩ := hf1
  have hI := hI.un hun
  obtain ⟨-, -, -, -, -, -, -, -, -, -, -, -, hsh, hm, hmu, hmP, hm10, hm7⟩ := id hI
  refine sv_aload_n (i := 2) dL_law_580 rfl rfl ?_
  refine sv_wload_n (i := 0) dL_law_581 rfl rfl ?_
  refine sv_iload_n (i := 3) dL_law_582 rfl rfl ?_
  refine sv_iconst dL_law_583 ?_
  refine sv_iadd dL_law_584 ?_
  refine sv_sld (by omega) dL_law_585 ?_
  refine sv_wload_n (i := 0) dL_law_586 rfl rfl ?_
  refine sv_iload_n (i := 3) dL_law_587 rfl rfl ?_
  refine sv_iconst dL_law_588 ?_
  refine sv_iadd dL_law_589 ?_
  refine sv_sld (by omega) dL_law_590 ?_
  refine sv_vi0 (As := [_, _]) clL_85 dL_law_591 ⟨_, rfl, rfl⟩ (by decide) rfl (Nat.le_of_ble_eq_true rfl) (by decide) (by decide) hsh.lt hsh.k (c_X5_apart hsh hm hw _ _ (sv_in32 _) (sv_in32 _)) (fun b f2 hf2 => ?_)
  obtain ⟨hb, hsq⟩ := hf2
  have hI := hI.sq hsq
  have hab : a = b := ha.trans hb.symm
  subst hab
  exact sv_icmp_eqs (tgt := 682) dL_law_594 (by decide) (hk _ _ _ ⟨_, _, _, _, _, _, _, _, hI⟩)
set_option maxRecDepth 100000 in
set_option maxHeartbeats 4000000 in
theorem L_nearest {X : sv_X} {S : sv_S} {f : sv_F} {r : sv_R} {g : sv_G} {m : Int → Int} {u : Int} {P : Int → Int → Int} {tl : Int} {t : Int → Int} {kp mp : Int → Nat} {kq : Int → Int → Nat} {i : Int} (hI : sv_IW S r f m u P tl t kp mp kq) (hi : 0 ≤ i ∧ i + 3 < (X.2.2.2.1.2.1 : Int)) (hk : ∀ (f' : sv_F) (r' : sv_R) (g' : sv_G), sv_IV S r' f' → sv_T X room_1 sv_ML (sv_Zl X) 488 9499 682 [some (sv_w X.2.2.2.1.1), some (sv_r 0), some (sv_r 478), some (sv_i i)] [] S f' r' g') : sv_T X room_1 sv_ML (sv_Zl X) 488 9499 632 [some (sv_w X.2.2.2.1.1), some (sv_r 0), some (sv_r 478), some (sv_i i)] [] S f r g := by
  obtain ⟨⟨hw, hg, hu, hpw, htl⟩, hve, hre, hsc, hmo, hh, hbd, hmv, hVu, hpv, htl1, htt, hsh, hm, hmu, hmP, hm10, hm7⟩ := id hI
  have hp : sv_sep 0 1 92 93 66 67 68 91 (sv_fd 69) := sv_sep0 0
  refine sv_aload_n (i := 1) dL_law_632 rfl rfl ?_
  refine sv_vi0 (As := []) clL_90 dL_law_633 ⟨_, rfl, rfl⟩ (by decide) rfl (Nat.le_of_ble_eq_true rfl) (by decide) (by decide) hve.lt hve.k (c_X4_nearest hve hmo hmv hre hw hsc hp hg) (fun a f1 hf1 => ?_)
  obtain ⟨ha, hun⟩ := hf1
  have hI := hI.un hun
  obtain ⟨-, -, -, -, -, -, -, -, -, -, -, -, hsh, hm, hmu, hmP, hm10, hm7⟩ := id hI
  refine sv_aload_n (i := 2) dL_law_636 rfl rfl ?_
  refine sv_vi0 (As := []) clL_93 dL_law_637 ⟨_, rfl, rfl⟩ (by decide) rfl (Nat.le_of_ble_eq_true rfl) (by decide) (by decide) hsh.lt hsh.k (c_X5_nearest hsh hm hw hg) (fun b f2 hf2 => ?_)
  obtain ⟨hb, hsq⟩ := hf2
  have hI := hI.sq hsq
  have hab : a = b := ha.trans hb.symm
  subst hab
  exact sv_icmp_eqs (tgt := 682) dL_law_640 (by decide) (hk _ _ _ ⟨_, _, _, _, _, _, _, _, hI⟩)
set_option maxRecDepth 100000 in
set_option maxHeartbeats 4000000 in
theorem L_count {X : sv_X} {S : sv_S} {f : sv_F} {r : sv_R} {g : sv_G} {m : Int → Int} {u : Int} {P : Int → Int → Int} {tl : Int} {t : Int → Int} {kp mp : Int → Nat} {kq : Int → Int → Nat} {i : Int} (hI : sv_IW S r f m u P tl t kp mp kq) (hi : 0 ≤ i ∧ i + 3 < (X.2.2.2.1.2.1 : Int)) (hk : ∀ (f' : sv_F) (r' : sv_R) (g' : sv_G), sv_IV S r' f' → sv_T X room_1 sv_ML (sv_Zl X) 488 9499 682 [some (sv_w X.2.2.2.1.1), some (sv_r 0), some (sv_r 478), some (sv_i i)] [] S f' r' g') : sv_T X room_1 sv_ML (sv_Zl X) 488 9499 645 [some (sv_w X.2.2.2.1.1), some (sv_r 0), some (sv_r 478), some (sv_i i)] [] S f r g := by
  obtain ⟨⟨hw, hg, hu, hpw, htl⟩, hve, hre, hsc, hmo, hh, hbd, hmv, hVu, hpv, htl1, htt, hsh, hm, hmu, hmP, hm10, hm7⟩ := id hI
  have hp : sv_sep 0 1 92 93 66 67 68 91 (sv_fd 69) := sv_sep0 0
  refine sv_aload_n (i := 1) dL_law_645 rfl rfl ?_
  refine sv_wload_n (i := 0) dL_law_646 rfl rfl ?_
  refine sv_iload_n (i := 3) dL_law_647 rfl rfl ?_
  refine sv_iconst dL_law_648 ?_
  refine sv_iadd dL_law_649 ?_
  refine sv_sld (by omega) dL_law_650 ?_
  refine sv_vi0 (As := [_]) clL_94 dL_law_651 ⟨_, rfl, rfl⟩ (by decide) rfl (Nat.le_of_ble_eq_true rfl) (by decide) (by decide) hve.lt hve.k (c_X4_count hve hmo hmv hre hw hsc hp hg _ (sv_in32 _)) (fun a f1 hf1 => ?_)
  obtain ⟨ha, hun⟩ := hf1
  have hI := hI.un hun
  obtain ⟨-, -, -, -, -, -, -, -, -, -, -, -, hsh, hm, hmu, hmP, hm10, hm7⟩ := id hI
  refine sv_aload_n (i := 2) dL_law_654 rfl rfl ?_
  refine sv_wload_n (i := 0) dL_law_655 rfl rfl ?_
  refine sv_iload_n (i := 3) dL_law_656 rfl rfl ?_
  refine sv_iconst dL_law_657 ?_
  refine sv_iadd dL_law_658 ?_
  refine sv_sld (by omega) dL_law_659 ?_
  refine sv_vi0 (As := [_]) clL_97 dL_law_660 ⟨_, rfl, rfl⟩ (by decide) rfl (Nat.le_of_ble_eq_true rfl) (by decide) (by decide) hsh.lt hsh.k (c_X5_count hsh hm hw hg _ (sv_in32 _)) (fun b f2 hf2 => ?_)
  obtain ⟨hb, hsq⟩ := hf2
  have hI := hI.sq hsq
  have hab : a = b := by rw [ha, hb, hVu, htl1, hmu, hm10]
  subst hab
  exact sv_icmp_eqs (tgt := 682) dL_law_663 (by decide) (hk _ _ _ ⟨_, _, _, _, _, _, _, _, hI⟩)
set_option maxRecDepth 100000 in
set_option maxHeartbeats 4000000 in
theorem L_value {X : sv_X} {S : sv_S} {f : sv_F} {r : sv_R} {g : sv_G} {m : Int → Int} {u : Int} {P : Int → Int → Int} {tl : Int} {t : Int → Int} {kp mp : Int → Nat} {kq : Int → Int → Nat} {i : Int} (hI : sv_IW S r f m u P tl t kp mp kq) (hi : 0 ≤ i ∧ i + 3 < (X.2.2.2.1.2.1 : Int)) (hk : ∀ (f' : sv_F) (r' : sv_R) (g' : sv_G), sv_IV S r' f' → sv_T X room_1 sv_ML (sv_Zl X) 488 9499 682 [some (sv_w X.2.2.2.1.1), some (sv_r 0), some (sv_r 478), some (sv_i i)] [] S f' r' g') : sv_T X room_1 sv_ML (sv_Zl X) 488 9499 381 [some (sv_w X.2.2.2.1.1), some (sv_r 0), some (sv_r 478), some (sv_i i)] [] S f r g := by
  obtain ⟨⟨hw, hg, hu, hpw, htl⟩, hve, hre, hsc, hmo, hh, hbd, hmv, hVu, hpv, htl1, htt, hsh, hm, hmu, hmP, hm10, hm7⟩ := id hI
  have hp : sv_sep 0 1 92 93 66 67 68 91 (sv_fd 69) := sv_sep0 0
  refine sv_aload_n (i := 1) dL_law_381 rfl rfl ?_
  refine sv_wload_n (i := 0) dL_law_382 rfl rfl ?_
  refine sv_iload_n (i := 3) dL_law_383 rfl rfl ?_
  refine sv_iconst dL_law_384 ?_
  refine sv_iadd dL_law_385 ?_
  refine sv_sld (by omega) dL_law_386 ?_
  refine sv_vp0 (As := [_]) clL_62 dL_law_387 ⟨_, rfl, rfl⟩ (by decide) rfl (Nat.le_of_ble_eq_true rfl) (by decide) (by decide) hve.lt hve.k (c_X4_value hve hmo hmv hre hw hg.f _ (sv_in32 _)) ?_
  refine sv_aload_n (i := 2) dL_law_390 rfl rfl ?_
  refine sv_wload_n (i := 0) dL_law_391 rfl rfl ?_
  refine sv_iload_n (i := 3) dL_law_392 rfl rfl ?_
  refine sv_iconst dL_law_393 ?_
  refine sv_iadd dL_law_394 ?_
  refine sv_sld (by omega) dL_law_395 ?_
  refine sv_vp0 (As := [_]) clL_65 dL_law_396 ⟨_, rfl, rfl⟩ (by decide) rfl (Nat.le_of_ble_eq_true rfl) (by decide) (by decide) hsh.lt hsh.k (c_X5_value hsh hm hg.f _ (sv_in32 _)) ?_
  exact sv_icmp_eqs (tgt := 682) dL_law_399 (by decide) (hk _ _ _ ⟨_, _, _, _, _, _, _, _, hI⟩)
set_option maxRecDepth 100000 in
set_option maxHeartbeats 4000000 in
theorem L_entry {X : sv_X} {S : sv_S} {f : sv_F} {r : sv_R} {g : sv_G} {m : Int → Int} {u : Int} {P : Int → Int → Int} {tl : Int} {t : Int → Int} {kp mp : Int → Nat} {kq : Int → Int → Nat} {i : Int} (hI : sv_IW S r f m u P tl t kp mp kq) (hi : 0 ≤ i ∧ i + 3 < (X.2.2.2.1.2.1 : Int)) (hk : ∀ (f' : sv_F) (r' : sv_R) (g' : sv_G), sv_IV S r' f' → sv_T X room_1 sv_ML (sv_Zl X) 488 9499 682 [some (sv_w X.2.2.2.1.1), some (sv_r 0), some (sv_r 478), some (sv_i i)] [] S f' r' g') : sv_T X room_1 sv_ML (sv_Zl X) 488 9499 437 [some (sv_w X.2.2.2.1.1), some (sv_r 0), some (sv_r 478), some (sv_i i)] [] S f r g := by
  obtain ⟨⟨hw, hg, hu, hpw, htl⟩, hve, hre, hsc, hmo, hh, hbd, hmv, hVu, hpv, htl1, htt, hsh, hm, hmu, hmP, hm10, hm7⟩ := id hI
  have hp : sv_sep 0 1 92 93 66 67 68 91 (sv_fd 69) := sv_sep0 0
  refine sv_aload_n (i := 1) dL_law_437 rfl rfl ?_
  refine sv_wload_n (i := 0) dL_law_438 rfl rfl ?_
  refine sv_iload_n (i := 3) dL_law_439 rfl rfl ?_
  refine sv_iconst dL_law_440 ?_
  refine sv_iadd dL_law_441 ?_
  refine sv_sld (by omega) dL_law_442 ?_
  refine sv_wload_n (i := 0) dL_law_443 rfl rfl ?_
  refine sv_iload_n (i := 3) dL_law_444 rfl rfl ?_
  refine sv_iconst dL_law_445 ?_
  refine sv_iadd dL_law_446 ?_
  refine sv_sld (by omega) dL_law_447 ?_
  refine sv_wload_n (i := 0) dL_law_448 rfl rfl ?_
  refine sv_iload_n (i := 3) dL_law_449 rfl rfl ?_
  refine sv_iconst dL_law_450 ?_
  refine sv_iadd dL_law_451 ?_
  refine sv_sld (by omega) dL_law_452 ?_
  refine sv_vp0 (As := [_, _, _]) clL_70 dL_law_453 ⟨_, rfl, rfl⟩ (by decide) rfl (Nat.le_of_ble_eq_true rfl) (by decide) (by decide) hve.lt hve.k (c_X4_entry hve hmo hmv hre hw _ _ _ (sv_in32 _) (sv_in32 _) (sv_in32 _)) ?_
  refine sv_aload_n (i := 2) dL_law_456 rfl rfl ?_
  refine sv_wload_n (i := 0) dL_law_457 rfl rfl ?_
  refine sv_iload_n (i := 3) dL_law_458 rfl rfl ?_
  refine sv_iconst dL_law_459 ?_
  refine sv_iadd dL_law_460 ?_
  refine sv_sld (by omega) dL_law_461 ?_
  refine sv_wload_n (i := 0) dL_law_462 rfl rfl ?_
  refine sv_iload_n (i := 3) dL_law_463 rfl rfl ?_
  refine sv_iconst dL_law_464 ?_
  refine sv_iadd dL_law_465 ?_
  refine sv_sld (by omega) dL_law_466 ?_
  refine sv_wload_n (i := 0) dL_law_467 rfl rfl ?_
  refine sv_iload_n (i := 3) dL_law_468 rfl rfl ?_
  refine sv_iconst dL_law_469 ?_
  refine sv_iadd dL_law_470 ?_
  refine sv_sld (by omega) dL_law_471 ?_
  refine sv_vp0 (As := [_, _, _]) clL_73 dL_law_472 ⟨_, rfl, rfl⟩ (by decide) rfl (Nat.le_of_ble_eq_true rfl) (by decide) (by decide) hsh.lt hsh.k (c_X5_entry hsh hm hw _ _ _ (sv_in32 _) (sv_in32 _) (sv_in32 _)) ?_
  exact sv_icmp_eqs (tgt := 682) dL_law_475 (by decide) (hk _ _ _ ⟨_, _, _, _, _, _, _, _, hI⟩)
set_option maxRecDepth 100000 in
set_option maxHeartbeats 4000000 in
theorem L_raise {X : sv_X} {S : sv_S} {f : sv_F} {r : sv_R} {g : sv_G} {m : Int → Int} {u : Int} {P : Int → Int → Int} {tl : Int} {t : Int → Int} {kp mp : Int → Nat} {kq : Int → Int → Nat} {i : Int} (hI : sv_IW S r f m u P tl t kp mp kq) (hi : 0 ≤ i ∧ i + 3 < (X.2.2.2.1.2.1 : Int)) (hk : ∀ (f' : sv_F) (r' : sv_R) (g' : sv_G), sv_IV S r' f' → sv_T X room_1 sv_ML (sv_Zl X) 488 9499 682 [some (sv_w X.2.2.2.1.1), some (sv_r 0), some (sv_r 478), some (sv_i i)] [] S f' r' g') : sv_T X room_1 sv_ML (sv_Zl X) 488 9499 181 [some (sv_w X.2.2.2.1.1), some (sv_r 0), some (sv_r 478), some (sv_i i)] [] S f r g := by
  obtain ⟨⟨hw, hg, hu, hpw, htl⟩, hve, hre, hsc, hmo, hh, hbd, hmv, hVu, hpv, htl1, htt, hsh, hm, hmu, hmP, hm10, hm7⟩ := id hI
  have hp : sv_sep 0 1 92 93 66 67 68 91 (sv_fd 69) := sv_sep0 0
  refine sv_aload_n (i := 1) dL_law_181 rfl rfl ?_
  refine sv_vk0 (As := []) clL_27 dL_law_182 ⟨_, rfl, rfl⟩ (by decide) rfl (Nat.le_of_ble_eq_true rfl) (by decide) (by decide) hve.lt hve.k (c_X4_raise hve hmo hmv hre hw hsc hp hh hu hVu hpv hpw hg) (fun a f1 r1 hf1 => ?_)
  have hM : sv_M5 S r1 478 ∧ ∀ x, 478 ≤ x → f1 x = f x := by
    rcases hf1 with ⟨-, -, rfl, rfl⟩ | ⟨-, -, hfr, -⟩
    · exact ⟨hsh, fun _ _ => rfl⟩
    · exact ⟨hsh.cg ((hfr 478 hbd 478 (by omega)).2 (by rw [hsh.k]; decide)), fun x hx => (hfr 478 hbd x hx).1⟩
  obtain ⟨hsh, hx1⟩ := hM
  have hm1 : f1 (478 + 1) = m := by rw [hx1 _ (by omega)]; exact hm
  have hu1 : 0 ≤ f1 478 2 ∧ f1 478 2 ≤ 6 := by rw [hx1 478 (by omega), hmu]; exact hu
  have h101 : 0 ≤ f1 478 10 ∧ f1 478 10 ≤ 80 := by rw [hx1 478 (by omega), hm10]; exact htl
  refine sv_aload_n (i := 2) dL_law_185 rfl rfl ?_
  refine sv_vi0 (As := []) clL_30 dL_law_186 ⟨_, rfl, rfl⟩ (by decide) rfl (Nat.le_of_ble_eq_true rfl) (by decide) (by decide) hsh.lt hsh.k (c_X5_raise hsh hm1 hw hg hu1) (fun b f2 hf2 => ?_)
  have hfin : a = b ∧ sv_IV S r1 f2 := by
    rcases hf1 with ⟨h3, ha, rfl, rfl⟩ | ⟨h3, ha, -, hn⟩
    · rcases hf2 with ⟨g3, hb, rfl⟩ | ⟨g3, hb, hc, hr⟩
      · exact ⟨ha.trans hb.symm, ⟨_, _, _, _, _, _, _, _, hI⟩⟩
      · exact absurd h3 g3
    · rcases hf2 with ⟨g3, hb, rfl⟩ | ⟨g3, hb, hc, hr⟩
      · exact absurd g3 h3
      · exact ⟨ha.trans hb.symm, hI.ch (hn _ hr) (sp_raise_ok hw hg h3 hr) hc rfl⟩
  obtain ⟨hab, hIV⟩ := hfin
  subst hab
  exact sv_icmp_eqs (tgt := 682) dL_law_189 (by decide) (hk _ _ _ hIV)
set_option maxRecDepth 100000 in
set_option maxHeartbeats 4000000 in
theorem L_set {X : sv_X} {S : sv_S} {f : sv_F} {r : sv_R} {g : sv_G} {m : Int → Int} {u : Int} {P : Int → Int → Int} {tl : Int} {t : Int → Int} {kp mp : Int → Nat} {kq : Int → Int → Nat} {i : Int} (hI : sv_IW S r f m u P tl t kp mp kq) (hi : 0 ≤ i ∧ i + 3 < (X.2.2.2.1.2.1 : Int)) (hk : ∀ (f' : sv_F) (r' : sv_R) (g' : sv_G), sv_IV S r' f' → sv_T X room_1 sv_ML (sv_Zl X) 488 9499 682 [some (sv_w X.2.2.2.1.1), some (sv_r 0), some (sv_r 478), some (sv_i i)] [] S f' r' g') : sv_T X room_1 sv_ML (sv_Zl X) 488 9499 335 [some (sv_w X.2.2.2.1.1), some (sv_r 0), some (sv_r 478), some (sv_i i)] [] S f r g := by
  obtain ⟨⟨hw, hg, hu, hpw, htl⟩, hve, hre, hsc, hmo, hh, hbd, hmv, hVu, hpv, htl1, htt, hsh, hm, hmu, hmP, hm10, hm7⟩ := id hI
  have hp : sv_sep 0 1 92 93 66 67 68 91 (sv_fd 69) := sv_sep0 0
  refine sv_aload_n (i := 1) dL_law_335 rfl rfl ?_
  refine sv_wload_n (i := 0) dL_law_336 rfl rfl ?_
  refine sv_iload_n (i := 3) dL_law_337 rfl rfl ?_
  refine sv_iconst dL_law_338 ?_
  refine sv_iadd dL_law_339 ?_
  refine sv_sld (by omega) dL_law_340 ?_
  refine sv_wload_n (i := 0) dL_law_341 rfl rfl ?_
  refine sv_iload_n (i := 3) dL_law_342 rfl rfl ?_
  refine sv_iconst dL_law_343 ?_
  refine sv_iadd dL_law_344 ?_
  refine sv_sld (by omega) dL_law_345 ?_
  refine sv_vk0 (As := [_, _]) clL_53 dL_law_346 ⟨_, rfl, rfl⟩ (by decide) rfl (Nat.le_of_ble_eq_true rfl) (by decide) (by decide) hve.lt hve.k (c_X4_set hve hmo hmv hre hw hsc hp hh hu hVu hpv hpw hg _ _ (sv_in32 _) (sv_in32 _)) (fun a f1 r1 hf1 => ?_)
  have hM : sv_M5 S r1 478 ∧ ∀ x, 478 ≤ x → f1 x = f x := by
    rcases hf1 with ⟨-, -, rfl, rfl⟩ | ⟨-, -, hn⟩
    · exact ⟨hsh, fun _ _ => rfl⟩
    · exact hI.md hn
  obtain ⟨hsh, hx1⟩ := hM
  have hm1 : f1 (478 + 1) = m := by rw [hx1 _ (by omega)]; exact hm
  have hu1 : 0 ≤ f1 478 2 ∧ f1 478 2 ≤ 6 := by rw [hx1 478 (by omega), hmu]; exact hu
  have h101 : 0 ≤ f1 478 10 ∧ f1 478 10 ≤ 80 := by rw [hx1 478 (by omega), hm10]; exact htl
  refine sv_aload_n (i := 2) dL_law_349 rfl rfl ?_
  refine sv_wload_n (i := 0) dL_law_350 rfl rfl ?_
  refine sv_iload_n (i := 3) dL_law_351 rfl rfl ?_
  refine sv_iconst dL_law_352 ?_
  refine sv_iadd dL_law_353 ?_
  refine sv_sld (by omega) dL_law_354 ?_
  refine sv_wload_n (i := 0) dL_law_355 rfl rfl ?_
  refine sv_iload_n (i := 3) dL_law_356 rfl rfl ?_
  refine sv_iconst dL_law_357 ?_
  refine sv_iadd dL_law_358 ?_
  refine sv_sld (by omega) dL_law_359 ?_
  refine sv_vi0 (As := [_, _]) clL_57 dL_law_360 ⟨_, rfl, rfl⟩ (by decide) rfl (Nat.le_of_ble_eq_true rfl) (by decide) (by decide) hsh.lt hsh.k (c_X5_set hsh hm1 _ _ (sv_in32 _) (sv_in32 _) hu1) (fun b f2 hf2 => ?_)
  have hfin : a = b ∧ sv_IV S r1 f2 := by
    rcases hf1 with ⟨h3, ha, rfl, rfl⟩ | ⟨h3, ha, hn⟩
    · rcases hf2 with ⟨g3, hb, rfl⟩ | ⟨g3, hb, hc, hr⟩
      · exact ⟨ha.trans hb.symm, ⟨_, _, _, _, _, _, _, _, hI⟩⟩
      · exact absurd h3 g3
    · rcases hf2 with ⟨g3, hb, rfl⟩ | ⟨g3, hb, hc, hr⟩
      · exact absurd g3 h3
      · exact ⟨ha.trans hb.symm, hI.ch hn (sp_set_ok hw hg (Decidable.byContradiction fun h => h3 (Or.inl h)) (Decidable.byContradiction fun h => h3 (Or.inr h))) hc hr⟩
  obtain ⟨hab, hIV⟩ := hfin
  subst hab
  exact sv_icmp_eqs (tgt := 682) dL_law_363 (by decide) (hk _ _ _ hIV)
set_option maxRecDepth 100000 in
set_option maxHeartbeats 4000000 in
theorem L_alter {X : sv_X} {S : sv_S} {f : sv_F} {r : sv_R} {g : sv_G} {m : Int → Int} {u : Int} {P : Int → Int → Int} {tl : Int} {t : Int → Int} {kp mp : Int → Nat} {kq : Int → Int → Nat} {i : Int} (hI : sv_IW S r f m u P tl t kp mp kq) (hi : 0 ≤ i ∧ i + 3 < (X.2.2.2.1.2.1 : Int)) (hk : ∀ (f' : sv_F) (r' : sv_R) (g' : sv_G), sv_IV S r' f' → sv_T X room_1 sv_ML (sv_Zl X) 488 9499 682 [some (sv_w X.2.2.2.1.1), some (sv_r 0), some (sv_r 478), some (sv_i i)] [] S f' r' g') : sv_T X room_1 sv_ML (sv_Zl X) 488 9499 279 [some (sv_w X.2.2.2.1.1), some (sv_r 0), some (sv_r 478), some (sv_i i)] [] S f r g := by
  obtain ⟨⟨hw, hg, hu, hpw, htl⟩, hve, hre, hsc, hmo, hh, hbd, hmv, hVu, hpv, htl1, htt, hsh, hm, hmu, hmP, hm10, hm7⟩ := id hI
  have hp : sv_sep 0 1 92 93 66 67 68 91 (sv_fd 69) := sv_sep0 0
  refine sv_aload_n (i := 1) dL_law_279 rfl rfl ?_
  refine sv_wload_n (i := 0) dL_law_280 rfl rfl ?_
  refine sv_iload_n (i := 3) dL_law_281 rfl rfl ?_
  refine sv_iconst dL_law_282 ?_
  refine sv_iadd dL_law_283 ?_
  refine sv_sld (by omega) dL_law_284 ?_
  refine sv_wload_n (i := 0) dL_law_285 rfl rfl ?_
  refine sv_iload_n (i := 3) dL_law_286 rfl rfl ?_
  refine sv_iconst dL_law_287 ?_
  refine sv_iadd dL_law_288 ?_
  refine sv_sld (by omega) dL_law_289 ?_
  refine sv_wload_n (i := 0) dL_law_290 rfl rfl ?_
  refine sv_iload_n (i := 3) dL_law_291 rfl rfl ?_
  refine sv_iconst dL_law_292 ?_
  refine sv_iadd dL_law_293 ?_
  refine sv_sld (by omega) dL_law_294 ?_
  refine sv_vk0 (As := [_, _, _]) clL_44 dL_law_295 ⟨_, rfl, rfl⟩ (by decide) rfl (Nat.le_of_ble_eq_true rfl) (by decide) (by decide) hve.lt hve.k (c_X4_alter hve hmo hmv hre hw hsc hp hh hu hVu hpv hpw hg _ _ _ (sv_in32 _) (sv_in32 _) (sv_in32 _)) (fun a f1 r1 hf1 => ?_)
  have hM : sv_M5 S r1 478 ∧ ∀ x, 478 ≤ x → f1 x = f x := by
    rcases hf1 with ⟨-, -, rfl, rfl⟩ | ⟨-, -, hn⟩
    · exact ⟨hsh, fun _ _ => rfl⟩
    · exact hI.md hn
  obtain ⟨hsh, hx1⟩ := hM
  have hm1 : f1 (478 + 1) = m := by rw [hx1 _ (by omega)]; exact hm
  have hu1 : 0 ≤ f1 478 2 ∧ f1 478 2 ≤ 6 := by rw [hx1 478 (by omega), hmu]; exact hu
  have h101 : 0 ≤ f1 478 10 ∧ f1 478 10 ≤ 80 := by rw [hx1 478 (by omega), hm10]; exact htl
  refine sv_aload_n (i := 2) dL_law_298 rfl rfl ?_
  refine sv_wload_n (i := 0) dL_law_299 rfl rfl ?_
  refine sv_iload_n (i := 3) dL_law_300 rfl rfl ?_
  refine sv_iconst dL_law_301 ?_
  refine sv_iadd dL_law_302 ?_
  refine sv_sld (by omega) dL_law_303 ?_
  refine sv_wload_n (i := 0) dL_law_304 rfl rfl ?_
  refine sv_iload_n (i := 3) dL_law_305 rfl rfl ?_
  refine sv_iconst dL_law_306 ?_
  refine sv_iadd dL_law_307 ?_
  refine sv_sld (by omega) dL_law_308 ?_
  refine sv_wload_n (i := 0) dL_law_309 rfl rfl ?_
  refine sv_iload_n (i := 3) dL_law_310 rfl rfl ?_
  refine sv_iconst dL_law_311 ?_
  refine sv_iadd dL_law_312 ?_
  refine sv_sld (by omega) dL_law_313 ?_
  refine sv_vi0 (As := [_, _, _]) clL_48 dL_law_314 ⟨_, rfl, rfl⟩ (by decide) rfl (Nat.le_of_ble_eq_true rfl) (by decide) (by decide) hsh.lt hsh.k (c_X5_alter hsh hm1 hw _ _ _ (sv_in32 _) (sv_in32 _) (sv_in32 _) hu1) (fun b f2 hf2 => ?_)
  have hfin : a = b ∧ sv_IV S r1 f2 := by
    rcases hf1 with ⟨h3, ha, rfl, rfl⟩ | ⟨h3, ha, hn⟩
    · rcases hf2 with ⟨g3, hb, rfl⟩ | ⟨g3, hb, hc, hr⟩
      · exact ⟨ha.trans hb.symm, ⟨_, _, _, _, _, _, _, _, hI⟩⟩
      · exact absurd h3 g3
    · rcases hf2 with ⟨g3, hb, rfl⟩ | ⟨g3, hb, hc, hr⟩
      · exact absurd g3 h3
      · obtain ⟨s0, s1, -⟩ := sp_slot_in (fun h => h3 (Or.inl h))
        exact ⟨ha.trans hb.symm, hI.ch hn (sp_alter_ok hw hg s0 s1 (Decidable.byContradiction fun h => h3 (Or.inr (Or.inl h))) (Decidable.byContradiction fun h => h3 (Or.inr (Or.inr h)))) hc hr⟩
  obtain ⟨hab, hIV⟩ := hfin
  subst hab
  exact sv_icmp_eqs (tgt := 682) dL_law_317 (by decide) (hk _ _ _ hIV)
set_option maxRecDepth 100000 in
set_option maxHeartbeats 4000000 in
theorem L_keep {X : sv_X} {S : sv_S} {f : sv_F} {r : sv_R} {g : sv_G} {m : Int → Int} {u : Int} {P : Int → Int → Int} {tl : Int} {t : Int → Int} {kp mp : Int → Nat} {kq : Int → Int → Nat} {i : Int} (hI : sv_IW S r f m u P tl t kp mp kq) (hi : 0 ≤ i ∧ i + 3 < (X.2.2.2.1.2.1 : Int)) (hk : ∀ (f' : sv_F) (r' : sv_R) (g' : sv_G), sv_IV S r' f' → sv_T X room_1 sv_ML (sv_Zl X) 488 9499 682 [some (sv_w X.2.2.2.1.1), some (sv_r 0), some (sv_r 478), some (sv_i i)] [] S f' r' g') : sv_T X room_1 sv_ML (sv_Zl X) 488 9499 194 [some (sv_w X.2.2.2.1.1), some (sv_r 0), some (sv_r 478), some (sv_i i)] [] S f r g := by
  obtain ⟨⟨hw, hg, hu, hpw, htl⟩, hve, hre, hsc, hmo, hh, hbd, hmv, hVu, hpv, htl1, htt, hsh, hm, hmu, hmP, hm10, hm7⟩ := id hI
  have hp : sv_sep 0 1 92 93 66 67 68 91 (sv_fd 69) := sv_sep0 0
  refine sv_aload_n (i := 1) dL_law_194 rfl rfl ?_
  refine sv_vk0 (As := []) clL_31 dL_law_195 ⟨_, rfl, rfl⟩ (by decide) rfl (Nat.le_of_ble_eq_true rfl) (by decide) (by decide) hve.lt hve.k (c_X4_keep hve hmo hmv hre hw hsc hp hh hu hVu hpv hpw hg) (fun a f1 r1 hf1 => ?_)
  have hM : sv_M5 S r1 478 ∧ ∀ x, 478 ≤ x → f1 x = f x := by
    rcases hf1 with ⟨-, -, rfl, rfl⟩ | ⟨-, -, hfr, -⟩
    · exact ⟨hsh, fun _ _ => rfl⟩
    · exact ⟨hsh.cg ((hfr 478 hbd 478 (by omega)).2 (by rw [hsh.k]; decide)), fun x hx => (hfr 478 hbd x hx).1⟩
  obtain ⟨hsh, hx1⟩ := hM
  have hm1 : f1 (478 + 1) = m := by rw [hx1 _ (by omega)]; exact hm
  have hu1 : 0 ≤ f1 478 2 ∧ f1 478 2 ≤ 6 := by rw [hx1 478 (by omega), hmu]; exact hu
  have h101 : 0 ≤ f1 478 10 ∧ f1 478 10 ≤ 80 := by rw [hx1 478 (by omega), hm10]; exact htl
  refine sv_aload_n (i := 2) dL_law_198 rfl rfl ?_
  refine sv_vi0 (As := []) clL_34 dL_law_199 ⟨_, rfl, rfl⟩ (by decide) rfl (Nat.le_of_ble_eq_true rfl) (by decide) (by decide) hsh.lt hsh.k (c_X5_keep hsh hm1 hw hg hu1) (fun b f2 hf2 => ?_)
  have hfin : a = b ∧ sv_IV S r1 f2 := by
    rcases hf1 with ⟨h3, ha, rfl, rfl⟩ | ⟨h3, ha, -, hn⟩
    · rcases hf2 with ⟨g3, hb, rfl⟩ | ⟨g3, hb, hc, hr⟩
      · exact ⟨ha.trans hb.symm, ⟨_, _, _, _, _, _, _, _, hI⟩⟩
      · exact absurd h3 g3
    · rcases hf2 with ⟨g3, hb, rfl⟩ | ⟨g3, hb, hc, hr⟩
      · exact absurd g3 h3
      · exact ⟨ha.trans hb.symm, hI.ch (hn _ hr) (sp_keep_ok hw hg h3 hr) hc rfl⟩
  obtain ⟨hab, hIV⟩ := hfin
  subst hab
  exact sv_icmp_eqs (tgt := 682) dL_law_202 (by decide) (hk _ _ _ hIV)
set_option maxRecDepth 100000 in
set_option maxHeartbeats 4000000 in
theorem L_load {X : sv_X} {S : sv_S} {f : sv_F} {r : sv_R} {g : sv_G} {m : Int → Int} {u : Int} {P : Int → Int → Int} {tl : Int} {t : Int → Int} {kp mp : Int → Nat} {kq : Int → Int → Nat} {i : Int} (hI : sv_IW S r f m u P tl t kp mp kq) (hi : 0 ≤ i ∧ i + 3 < (X.2.2.2.1.2.1 : Int)) (hk : ∀ (f' : sv_F) (r' : sv_R) (g' : sv_G), sv_IV S r' f' → sv_T X room_1 sv_ML (sv_Zl X) 488 9499 682 [some (sv_w X.2.2.2.1.1), some (sv_r 0), some (sv_r 478), some (sv_i i)] [] S f' r' g') : sv_T X room_1 sv_ML (sv_Zl X) 488 9499 207 [some (sv_w X.2.2.2.1.1), some (sv_r 0), some (sv_r 478), some (sv_i i)] [] S f r g := by
  obtain ⟨⟨hw, hg, hu, hpw, htl⟩, hve, hre, hsc, hmo, hh, hbd, hmv, hVu, hpv, htl1, htt, hsh, hm, hmu, hmP, hm10, hm7⟩ := id hI
  have hp : sv_sep 0 1 92 93 66 67 68 91 (sv_fd 69) := sv_sep0 0
  refine sv_aload_n (i := 1) dL_law_207 rfl rfl ?_
  refine sv_wload_n (i := 0) dL_law_208 rfl rfl ?_
  refine sv_iload_n (i := 3) dL_law_209 rfl rfl ?_
  refine sv_iconst dL_law_210 ?_
  refine sv_iadd dL_law_211 ?_
  refine sv_sld (by omega) dL_law_212 ?_
  refine sv_vk0 (As := [_]) clL_35 dL_law_213 ⟨_, rfl, rfl⟩ (by decide) rfl (Nat.le_of_ble_eq_true rfl) (by decide) (by decide) hve.lt hve.k (c_X4_load hve hmo hmv hre hw hsc hp hh hu hVu hpv hpw hg _ (sv_in32 _)) (fun a f1 r1 hf1 => ?_)
  have hM : sv_M5 S r1 478 ∧ ∀ x, 478 ≤ x → f1 x = f x := by
    rcases hf1 with ⟨-, -, rfl, rfl⟩ | ⟨-, -, -, hun, rfl⟩ | ⟨-, -, -, hfr, -⟩
    · exact ⟨hsh, fun _ _ => rfl⟩
    · exact ⟨hsh, fun x hx => hun x (by omega) (fun p p0 p1 => by unfold sv_fd; omega) (by omega) (by omega)⟩
    · exact ⟨hsh.cg ((hfr 478 hbd 478 (by omega)).2 (by rw [hsh.k]; decide)), fun x hx => (hfr 478 hbd x hx).1⟩
  obtain ⟨hsh, hx1⟩ := hM
  have hm1 : f1 (478 + 1) = m := by rw [hx1 _ (by omega)]; exact hm
  have hu1 : 0 ≤ f1 478 2 ∧ f1 478 2 ≤ 6 := by rw [hx1 478 (by omega), hmu]; exact hu
  have h101 : 0 ≤ f1 478 10 ∧ f1 478 10 ≤ 80 := by rw [hx1 478 (by omega), hm10]; exact htl
  refine sv_aload_n (i := 2) dL_law_216 rfl rfl ?_
  refine sv_wload_n (i := 0) dL_law_217 rfl rfl ?_
  refine sv_iload_n (i := 3) dL_law_218 rfl rfl ?_
  refine sv_iconst dL_law_219 ?_
  refine sv_iadd dL_law_220 ?_
  refine sv_sld (by omega) dL_law_221 ?_
  refine sv_vi0 (As := [_]) clL_38 dL_law_222 ⟨_, rfl, rfl⟩ (by decide) rfl (Nat.le_of_ble_eq_true rfl) (by decide) (by decide) hsh.lt hsh.k (c_X5_load hsh hm1 hw hg _ (sv_in32 _) hu1) (fun b f2 hf2 => ?_)
  have hfin : a = b ∧ sv_IV S r1 f2 := by
    rcases hf1 with ⟨h3, ha, rfl, rfl⟩ | ⟨h3, h4, ha, hun, rfl⟩ | ⟨h3, h4, ha, -, hn⟩
    · rcases hf2 with ⟨g3, hb, hs⟩ | ⟨g3, g4, hb, hs⟩ | ⟨g3, g4, hb, hc, hr⟩
      · exact ⟨ha.trans hb.symm, ⟨_, _, _, _, _, _, _, _, hI.sq hs⟩⟩
      · exact absurd h3 g3
      · exact absurd h3 g3
    · rcases hf2 with ⟨g3, hb, hs⟩ | ⟨g3, g4, hb, hs⟩ | ⟨g3, g4, hb, hc, hr⟩
      · exact absurd g3 h3
      · exact ⟨ha.trans hb.symm, ⟨_, _, _, _, _, _, _, _, (hI.un hun).sq hs⟩⟩
      · exact absurd g4 h4
    · rcases hf2 with ⟨g3, hb, hs⟩ | ⟨g3, g4, hb, hs⟩ | ⟨g3, g4, hb, hc, hr⟩
      · exact absurd g3 h3
      · exact absurd h4 g4
      · exact ⟨ha.trans hb.symm, hI.ch (hn _ hr) (sp_load_ok hw hg h3 h4 hr) hc rfl⟩
  obtain ⟨hab, hIV⟩ := hfin
  subst hab
  exact sv_icmp_eqs (tgt := 682) dL_law_225 (by decide) (hk _ _ _ hIV)
set_option maxRecDepth 100000 in
set_option maxHeartbeats 4000000 in
theorem L_pack {X : sv_X} {S : sv_S} {f : sv_F} {r : sv_R} {g : sv_G} {m : Int → Int} {u : Int} {P : Int → Int → Int} {tl : Int} {t : Int → Int} {kp mp : Int → Nat} {kq : Int → Int → Nat} {i : Int} (hI : sv_IW S r f m u P tl t kp mp kq) (hi : 0 ≤ i ∧ i + 3 < (X.2.2.2.1.2.1 : Int)) (hk : ∀ (f' : sv_F) (r' : sv_R) (g' : sv_G), sv_IV S r' f' → sv_T X room_1 sv_ML (sv_Zl X) 488 9499 682 [some (sv_w X.2.2.2.1.1), some (sv_r 0), some (sv_r 478), some (sv_i i)] [] S f' r' g') : sv_T X room_1 sv_ML (sv_Zl X) 488 9499 322 [some (sv_w X.2.2.2.1.1), some (sv_r 0), some (sv_r 478), some (sv_i i)] [] S f r g := by
  obtain ⟨⟨hw, hg, hu, hpw, htl⟩, hve, hre, hsc, hmo, hh, hbd, hmv, hVu, hpv, htl1, htt, hsh, hm, hmu, hmP, hm10, hm7⟩ := id hI
  have hp : sv_sep 0 1 92 93 66 67 68 91 (sv_fd 69) := sv_sep0 0
  refine sv_aload_n (i := 1) dL_law_322 rfl rfl ?_
  refine sv_vk0 (As := []) clL_49 dL_law_323 ⟨_, rfl, rfl⟩ (by decide) rfl (Nat.le_of_ble_eq_true rfl) (by decide) (by decide) hve.lt hve.k (c_X4_pack hve hmo hmv hre hw hsc hp hh hu hVu hpv hpw hg) (fun a f1 r1 hf1 => ?_)
  have hM : sv_M5 S r1 478 ∧ ∀ x, 478 ≤ x → f1 x = f x := by
    exact hI.md hf1.2
  obtain ⟨hsh, hx1⟩ := hM
  have hm1 : f1 (478 + 1) = m := by rw [hx1 _ (by omega)]; exact hm
  have hu1 : 0 ≤ f1 478 2 ∧ f1 478 2 ≤ 6 := by rw [hx1 478 (by omega), hmu]; exact hu
  have h101 : 0 ≤ f1 478 10 ∧ f1 478 10 ≤ 80 := by rw [hx1 478 (by omega), hm10]; exact htl
  refine sv_aload_n (i := 2) dL_law_326 rfl rfl ?_
  refine sv_vi0 (As := []) clL_52 dL_law_327 ⟨_, rfl, rfl⟩ (by decide) rfl (Nat.le_of_ble_eq_true rfl) (by decide) (by decide) hsh.lt hsh.k (c_X5_pack hsh hm1 hw hg.l hu1) (fun b f2 hf2 => ?_)
  have hfin : a = b ∧ sv_IV S r1 f2 := by
    obtain ⟨ha, hn⟩ := hf1
    obtain ⟨hb, hc, hr⟩ := hf2
    exact ⟨ha.trans hb.symm, hI.ch hn (sp_pack_ok hw hg) hc hr⟩
  obtain ⟨hab, hIV⟩ := hfin
  subst hab
  exact sv_icmp_eqs (tgt := 682) dL_law_330 (by decide) (hk _ _ _ hIV)
set_option maxRecDepth 100000 in
set_option maxHeartbeats 4000000 in
theorem L_play {X : sv_X} {S : sv_S} {f : sv_F} {r : sv_R} {g : sv_G} {m : Int → Int} {u : Int} {P : Int → Int → Int} {tl : Int} {t : Int → Int} {kp mp : Int → Nat} {kq : Int → Int → Nat} {i : Int} (hI : sv_IW S r f m u P tl t kp mp kq) (hi : 0 ≤ i ∧ i + 3 < (X.2.2.2.1.2.1 : Int)) (hk : ∀ (f' : sv_F) (r' : sv_R) (g' : sv_G), sv_IV S r' f' → sv_T X room_1 sv_ML (sv_Zl X) 488 9499 682 [some (sv_w X.2.2.2.1.1), some (sv_r 0), some (sv_r 478), some (sv_i i)] [] S f' r' g') : sv_T X room_1 sv_ML (sv_Zl X) 488 9499 168 [some (sv_w X.2.2.2.1.1), some (sv_r 0), some (sv_r 478), some (sv_i i)] [] S f r g := by
  obtain ⟨⟨hw, hg, hu, hpw, htl⟩, hve, hre, hsc, hmo, hh, hbd, hmv, hVu, hpv, htl1, htt, hsh, hm, hmu, hmP, hm10, hm7⟩ := id hI
  have hp : sv_sep 0 1 92 93 66 67 68 91 (sv_fd 69) := sv_sep0 0
  refine sv_aload_n (i := 1) dL_law_168 rfl rfl ?_
  refine sv_vk0 (As := []) clL_23 dL_law_169 ⟨_, rfl, rfl⟩ (by decide) rfl (Nat.le_of_ble_eq_true rfl) (by decide) (by decide) hve.lt hve.k (c_X4_play hve hmo hmv hre hw hsc hp hh hu hVu hpv hpw hg (by rw [htl1]; exact htl)) (fun a f1 r1 hf1 => ?_)
  have hM : sv_M5 S r1 478 ∧ ∀ x, 478 ≤ x → f1 x = f x := by
    obtain ⟨c, φ, -, ⟨-, -, hn⟩ | ⟨-, -, hn⟩⟩ := hf1
    · exact hI.md hn
    · exact hI.md hn
  obtain ⟨hsh, hx1⟩ := hM
  have hm1 : f1 (478 + 1) = m := by rw [hx1 _ (by omega)]; exact hm
  have hu1 : 0 ≤ f1 478 2 ∧ f1 478 2 ≤ 6 := by rw [hx1 478 (by omega), hmu]; exact hu
  have h101 : 0 ≤ f1 478 10 ∧ f1 478 10 ≤ 80 := by rw [hx1 478 (by omega), hm10]; exact htl
  refine sv_aload_n (i := 2) dL_law_172 rfl rfl ?_
  refine sv_vi0 (As := []) clL_26 dL_law_173 ⟨_, rfl, rfl⟩ (by decide) rfl (Nat.le_of_ble_eq_true rfl) (by decide) (by decide) hsh.lt hsh.k (c_X5_play hsh hm1 hg h101 hu1) (fun b f2 hf2 => ?_)
  have hfin : a = b ∧ sv_IV S r1 f2 := by
    obtain ⟨c, φ, hc1, hcl⟩ := hf1
    obtain ⟨c', φ', hc2, hml⟩ := hf2
    rw [htl1, htt] at hc1 hcl
    rw [hx1 (478 + 7) (by omega), hx1 478 (by omega), hm10, hm7] at hc2 hml
    obtain ⟨rfl, rfl⟩ := sp_sc_unique hc1 hc2
    rcases hcl with ⟨h3, ha, hn⟩ | ⟨h3, ha, hn⟩
    · rcases hml with ⟨g3, hb, hs⟩ | ⟨g3, hb, hc, hr⟩
      · refine ⟨ha.trans hb.symm, hI.nx hn ⟨hw, hg⟩ hu hpw (fun x hx => hs.1 x (by omega) (by omega) (by omega) (by omega) (by omega) (by omega) (by omega)) (by rw [hs.m]; exact hm1) (by rw [hs.2.1, hx1 478 (by omega)]; exact hmu) ?_ hs.2.2 hs.t⟩
        rw [hs.p, hx1 (478 + 2) (by omega)]; exact hmP
      · exact absurd g3 h3
    · rcases hml with ⟨g3, hb, hs⟩ | ⟨g3, hb, hc, hr⟩
      · exact absurd h3 g3
      · exact ⟨ha.trans hb.symm, hI.ch hn (sp_play_ok hw hg htl.1 hc1) hc hr⟩
  obtain ⟨hab, hIV⟩ := hfin
  subst hab
  exact sv_icmp_eqs (tgt := 682) dL_law_176 (by decide) (hk _ _ _ hIV)
set_option maxRecDepth 100000 in
set_option maxHeartbeats 4000000 in
theorem L_undo {X : sv_X} {S : sv_S} {f : sv_F} {r : sv_R} {g : sv_G} {m : Int → Int} {u : Int} {P : Int → Int → Int} {tl : Int} {t : Int → Int} {kp mp : Int → Nat} {kq : Int → Int → Nat} {i : Int} (hI : sv_IW S r f m u P tl t kp mp kq) (hi : 0 ≤ i ∧ i + 3 < (X.2.2.2.1.2.1 : Int)) (hk : ∀ (f' : sv_F) (r' : sv_R) (g' : sv_G), sv_IV S r' f' → sv_T X room_1 sv_ML (sv_Zl X) 488 9499 682 [some (sv_w X.2.2.2.1.1), some (sv_r 0), some (sv_r 478), some (sv_i i)] [] S f' r' g') : sv_T X room_1 sv_ML (sv_Zl X) 488 9499 368 [some (sv_w X.2.2.2.1.1), some (sv_r 0), some (sv_r 478), some (sv_i i)] [] S f r g := by
  obtain ⟨⟨hw, hg, hu, hpw, htl⟩, hve, hre, hsc, hmo, hh, hbd, hmv, hVu, hpv, htl1, htt, hsh, hm, hmu, hmP, hm10, hm7⟩ := id hI
  have hp : sv_sep 0 1 92 93 66 67 68 91 (sv_fd 69) := sv_sep0 0
  refine sv_aload_n (i := 1) dL_law_368 rfl rfl ?_
  refine sv_vk0 (As := []) clL_58 dL_law_369 ⟨_, rfl, rfl⟩ (by decide) rfl (Nat.le_of_ble_eq_true rfl) (by decide) (by decide) hve.lt hve.k (c_X4_undo hve hmo hmv hre hw hsc hp hh hu hVu hpv hpw hg) (fun a f1 r1 hf1 => ?_)
  have hM : sv_M5 S r1 478 ∧ ∀ x, 478 ≤ x → f1 x = f x := by
    rcases hf1 with ⟨-, -, rfl, rfl⟩ | ⟨-, -, hn⟩
    · exact ⟨hsh, fun _ _ => rfl⟩
    · exact hI.md hn
  obtain ⟨hsh, hx1⟩ := hM
  have hm1 : f1 (478 + 1) = m := by rw [hx1 _ (by omega)]; exact hm
  have hu1 : 0 ≤ f1 478 2 ∧ f1 478 2 ≤ 6 := by rw [hx1 478 (by omega), hmu]; exact hu
  have h101 : 0 ≤ f1 478 10 ∧ f1 478 10 ≤ 80 := by rw [hx1 478 (by omega), hm10]; exact htl
  refine sv_aload_n (i := 2) dL_law_372 rfl rfl ?_
  refine sv_vi0 (As := []) clL_61 dL_law_373 ⟨_, rfl, rfl⟩ (by decide) rfl (Nat.le_of_ble_eq_true rfl) (by decide) (by decide) hsh.lt hsh.k (c_X5_undo hsh hu1) (fun b f2 hf2 => ?_)
  have hfin : a = b ∧ sv_IV S r1 f2 := by
    rcases hf1 with ⟨h3, ha, rfl, rfl⟩ | ⟨h3, ha, hn⟩
    · rcases hf2 with ⟨g3, hb, rfl⟩ | ⟨g3, hb, hr⟩
      · exact ⟨ha.trans hb.symm, ⟨_, _, _, _, _, _, _, _, hI⟩⟩
      · rw [hmu] at g3; omega
    · rw [hx1 478 (by omega), hx1 (478 + 1) (by omega), hx1 (478 + 2) (by omega), hmu, hm] at hf2
      rcases hf2 with ⟨g3, hb, rfl⟩ | ⟨g3, hb, hr⟩
      · omega
      · refine ⟨ha.trans hb.symm, ?_⟩
        have hwp := hpw (u - 1) (by omega) (by omega)
        have hag : ∀ j, 0 ≤ j → j < 598 → (fun j => if 0 ≤ j ∧ j < 598 then f (478 + 2) (598 * (u - 1) + j) else m j) j = P (u - 1) j := fun j j0 j1 => by
          dsimp only
          rw [if_pos ⟨j0, j1⟩, hmP (u - 1) (by omega) (by omega) j j0 j1]
        have hn2 : sv_NX S 0 1 69 70 91 92 93 65 66 67 68 (sv_fd 69) mp r f (fun j => if 0 ≤ j ∧ j < 598 then f (478 + 2) (598 * (u - 1) + j) else m j) (u - 1) P f1 r1 := by
          obtain ⟨kp', mp', kq', a1, a2, a3, a4, a5, a6, hrest⟩ := hn
          exact ⟨kp', mp', kq', a1, a2, a3, a4, a5, a6.ext hwp.1 hwp.2.f.2 hag, hrest⟩
        have e1 : ∀ x, x ≠ 478 → x ≠ 478 + 1 → f2 x = f1 x := fun x x0 x1 => by rw [hr, sv_u_ne x0, sv_row_ne x1]
        have e2 : ∀ j, j ≠ 2 → f2 478 j = f1 478 j := fun j hj => by rw [hr]; simp only [sv_u, sv_row]; rw [if_neg (by omega), if_neg (by omega)]
        refine hI.nx hn2 ⟨sp_ext_wt hwp.1 hag, sp_ext_wg hwp.1 hwp.2 hag⟩ (by omega) (fun i i0 i1 => hpw i i0 (by omega)) (fun x hx => e1 x (by omega) (by omega)) (by rw [hr, sv_u_ne (by omega), sv_row_eq]) (by rw [hr]; simp [sv_u]) ?_ (e2 10 (by decide)) (e1 _ (by omega) (by omega))
        rw [e1 (478 + 2) (by omega) (by omega), hx1 (478 + 2) (by omega)]
        exact fun i i0 i1 => hmP i i0 (by omega)
  obtain ⟨hab, hIV⟩ := hfin
  subst hab
  exact sv_icmp_eqs (tgt := 682) dL_law_376 (by decide) (hk _ _ _ hIV)
