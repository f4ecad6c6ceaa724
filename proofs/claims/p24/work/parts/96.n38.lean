theorem sv_oiw : Cond.instanceMethod Lib.objectInit ∈ lw_tbl ∧ Cond.code Lib.objectInit ⟨#[0xb1]⟩ 1 none ∈ lw_tbl := ⟨List.mem_of_getElem? (i := 66) (by decide +kernel), List.mem_of_getElem? (i := 67) (by decide +kernel)⟩
theorem sv_arI : Cond.arrayClass .int ∈ lw_tbl := List.mem_of_getElem? (i := 118) (by decide +kernel)
set_option maxRecDepth 100000 in
set_option maxHeartbeats 4000000 in
theorem c_X0_init {X : sv_X} {S : sv_S} {f : sv_F} {r : sv_R} {g : sv_G} {i : Nat} (hi : S.1 = i + 1) (hk : (S.2 i).1 = 0) (hb : sv_bl S f r g) : sv_C X 1 MX0_init 2 24 [sv_r i] S f r g ((fun rv' S' f' r' g' => rv' = none ∧ S'.1 = i + 3 ∧ (∀ x, x < i + 1 → S'.2 x = S.2 x) ∧ sv_K0 S' r' i ∧ (∀ x, x ≠ i → f' x = f x ∧ r' x = r x) ∧ (f' i 0 = 0 ∧ f' i 1 = 1 ∧ f' i 2 = 0 ∧ f' i 3 = -1 ∧ f' i 4 = 0) ∧ g' = g ∧ sv_bl S' f' r' g')) := by
  refine sv_met (by decide) (by simp [lg_sl, sv_cv, va_rf, Value.category]) ?_
  refine sv_fr fun hin => ?_
  refine sv_aload_n (i := 0) dX0_init_0 rfl rfl ?_
  refine sv_objinit (List.mem_of_getElem? (i := 80) (by decide +kernel)) sv_oiw (Nat.le_of_ble_eq_true rfl) (by decide) dX0_init_1 ?_
  refine sv_aload_n (i := 0) dX0_init_4 rfl rfl ?_
  refine sv_iconst dX0_init_5 ?_
  refine sv_putI (kz := 0) flX0_9 dX0_init_6 (Or.inl rfl) rfl rfl (by omega) hk (by first | omega | exact hin _ _ | decide | (simp [sv_u, sv_row]; omega) | (simp [sv_u, sv_row]; exact hin _ _) | exact hin1 _ _ | (simp [sv_u, sv_row]; exact hin1 _ _)) ?_
  refine sv_aload_n (i := 0) dX0_init_9 rfl rfl ?_
  refine sv_iconst dX0_init_10 ?_
  refine sv_putI (kz := 1) flX0_15 dX0_init_11 (Or.inl rfl) rfl rfl (by omega) hk (by first | omega | exact hin _ _ | decide | (simp [sv_u, sv_row]; omega) | (simp [sv_u, sv_row]; exact hin _ _) | exact hin1 _ _ | (simp [sv_u, sv_row]; exact hin1 _ _)) ?_
  refine sv_aload_n (i := 0) dX0_init_14 rfl rfl ?_
  refine sv_iconst dX0_init_15 ?_
  refine sv_putI (kz := 2) flX0_18 dX0_init_16 (Or.inl rfl) rfl rfl (by omega) hk (by first | omega | exact hin _ _ | decide | (simp [sv_u, sv_row]; omega) | (simp [sv_u, sv_row]; exact hin _ _) | exact hin1 _ _ | (simp [sv_u, sv_row]; exact hin1 _ _)) ?_
  refine sv_aload_n (i := 0) dX0_init_19 rfl rfl ?_
  refine sv_iconst dX0_init_20 ?_
  refine sv_putI (kz := 3) flX0_21 dX0_init_21 (Or.inl rfl) rfl rfl (by omega) hk (by first | omega | exact hin _ _ | decide | (simp [sv_u, sv_row]; omega) | (simp [sv_u, sv_row]; exact hin _ _) | exact hin1 _ _ | (simp [sv_u, sv_row]; exact hin1 _ _)) ?_
  refine sv_aload_n (i := 0) dX0_init_24 rfl rfl ?_
  refine sv_iconst dX0_init_25 ?_
  refine sv_putI (kz := 4) flX0_24 dX0_init_26 (Or.inl rfl) rfl rfl (by omega) hk (by first | omega | exact hin _ _ | decide | (simp [sv_u, sv_row]; omega) | (simp [sv_u, sv_row]; exact hin _ _) | exact hin1 _ _ | (simp [sv_u, sv_row]; exact hin1 _ _)) ?_
  refine sv_aload_n (i := 0) dX0_init_29 rfl rfl ?_
  refine sv_bipush dX0_init_30 (by decide) ?_
  refine sv_aI (a := (i + 1)) hi rfl (by decide) dX0_init_32 (((((hb.u (by omega)).u (by omega)).u (by omega)).u (by omega)).u (by omega)) ⟨by decide, by decide⟩ sv_arI (fun S1 zS1 bS1 => ?_)
  obtain ⟨z1, k1, e1⟩ := zS1
  have hk0 := hk
  have hk : (S1.2 i).1 = 0 := by rw [e1 i (by omega)]; exact hk
  refine sv_putR (kz := 5) flX0_27 dX0_init_34 (Or.inr ⟨rfl, _, rfl, rfl⟩) rfl rfl (by omega) hk ?_
  refine sv_aload_n (i := 0) dX0_init_37 rfl rfl ?_
  refine sv_bipush dX0_init_38 (by decide) ?_
  refine sv_aI (a := (i + 2)) z1 rfl (by decide) dX0_init_40 (bS1.ur (by omega)) ⟨by decide, by decide⟩ sv_arI (fun S2 zS2 bS2 => ?_)
  obtain ⟨z2, k2, e2⟩ := zS2
  have hk1 := hk
  have hk : (S2.2 i).1 = 0 := by rw [e2 i (by omega)]; exact hk
  refine sv_putR (kz := 6) flX0_31 dX0_init_42 (Or.inr ⟨rfl, _, rfl, rfl⟩) rfl rfl (by omega) hk ?_
  refine sv_return dX0_init_45 rfl ?_
  refine ⟨rfl, z2, fun x hx => by rw [e2 x (by omega), e1 x (by omega)], ⟨by omega, hk, ⟨?_, ?_⟩, ?_, ?_⟩, fun x hx => ⟨?_, ?_⟩, ⟨?_, ?_, ?_, ?_, ?_⟩, rfl, bS2.ur (by omega)⟩
  · simp [sv_ur]
  · rw [e2 _ (by omega), k1]
  · simp [sv_ur]
  · exact k2
  · rw [sv_u_ne hx, sv_u_ne hx, sv_u_ne hx, sv_u_ne hx, sv_u_ne hx]
  · rw [sv_ur_ne hx, sv_ur_ne hx]
  · simp [sv_u]
  · simp [sv_u]
  · simp [sv_u]
  · simp [sv_u]
  · simp [sv_u]
theorem sv_castk {X : sv_X} {R : Room} {M : sv_M} {Z : sv_Z} {kc ks kc' ks' pc pc' : Nat} {ls ls' : sv_L} {st st' : List sv_V} {S S' : sv_S} {f f' : sv_F} {r r' : sv_R} {g : sv_G} (h : sv_T X R M Z kc' ks' pc' ls' st' S' f' r' g) (e1 : kc' = kc) (e2 : ks' = ks) (e3 : pc' = pc) (e4 : ls' = ls) (e5 : st' = st) (e6 : S' = S) (e7 : f' = f) (e8 : r' = r) : sv_T X R M Z kc ks pc ls st S f r g := by
  subst e1 e2 e3 e4 e5 e6 e7 e8; exact h
set_option maxRecDepth 100000 in
set_option maxHeartbeats 4000000 in
theorem c_X1_init {X : sv_X} {S : sv_S} {f : sv_F} {r : sv_R} {g : sv_G} {q : Nat} (hi : S.1 = q + 1) (hk : (S.2 q).1 = 1) (hb : sv_bl S f r g) : sv_C X 2 MX1_init 63 654 [sv_r q] S f r g ((fun rv' S' f' r' g' => rv' = none ∧ S'.1 = q + 64 ∧ (∀ x, x < q + 1 → S'.2 x = S.2 x) ∧ sv_K1 S' r' q (fun p => q + 4 + 3 * p.toNat) ∧ (∀ x, x < q → f' x = f x ∧ r' x = r x) ∧ (f' q 0 = 1 ∧ f' q 1 = -1 ∧ f' q 2 = 0 ∧ f' q 3 = 0 ∧ f' (q + 1) = (fun _ => 0) ∧ f' (q + 2) 0 = 4 ∧ f' (q + 2) 1 = 1) ∧ g' = g ∧ sv_bl S' f' r' g')) := by
  refine sv_met (by decide) (by simp [lg_sl, sv_cv, va_rf, Value.category]) ?_
  refine sv_fr fun hin => ?_
  have lp : ∀ (kk : Nat) (n : Nat) (S1 : sv_S) (f1 : sv_F) (r1 : sv_R), 20 - (n : Int) < (kk : Int) → (n ≤ 20) → (S1.1 = q + 4 + 3 * n) → ((S1.2 q).1 = 1) → (S1.2 (q + 1) = (6, 12)) → (S1.2 (q + 2) = (6, 2)) → (S1.2 (q + 3) = (8, 20)) → (r1 q 4 = some (q + 1)) → (r1 q 5 = some (q + 2)) → (r1 q 6 = some (q + 3)) → (∀ x, x < q → S1.2 x = S.2 x ∧ f1 x = f x ∧ r1 x = r x) → (S1.2 q = S.2 q) → (f1 q 0 = 1 ∧ f1 q 1 = -1 ∧ f1 q 2 = 0 ∧ f1 q 3 = 0 ∧ f1 (q + 1) = (fun _ => 0) ∧ f1 (q + 2) 0 = 4 ∧ f1 (q + 2) 1 = 1) → (∀ j : Nat, j < n → sv_K0 S1 r1 (q + 4 + 3 * j) ∧ r1 (q + 3) (j : Int) = some (q + 4 + 3 * j)) → (sv_bl S1 f1 r1 g) → sv_T X (sv_rm 2 63 654) MX1_init (sv_Zm X 63 654 ((fun rv' S' f' r' g' => rv' = none ∧ S'.1 = q + 64 ∧ (∀ x, x < q + 1 → S'.2 x = S.2 x) ∧ sv_K1 S' r' q (fun p => q + 4 + 3 * p.toNat) ∧ (∀ x, x < q → f' x = f x ∧ r' x = r x) ∧ (f' q 0 = 1 ∧ f' q 1 = -1 ∧ f' q 2 = 0 ∧ f' q 3 = 0 ∧ f' (q + 1) = (fun _ => 0) ∧ f' (q + 2) 0 = 4 ∧ f' (q + 2) 1 = 1) ∧ g' = g ∧ sv_bl S' f' r' g'))) (3 + 3 * n) (34 + 31 * n) 64 [some (sv_r q), some (sv_i (n : Nat))] [] S1 (f1) r1 g := by
    intro kk
    induction kk with
    | zero =>
      intro n S1 f1 r1 hkk hn z hk hs1 hs2 hs3 hr4 hr5 hr6 hx hq hf hkp hb1
      exact absurd hkk (by omega)
    | succ kk ih =>
      intro n S1 f1 r1 hkk hn z hk hs1 hs2 hs3 hr4 hr5 hr6 hx hq hf hkp hb1
      refine sv_iload_n (i := 1) dX1_init_64 rfl rfl ?_
      refine sv_bipush dX1_init_65 (by decide) ?_
      refine sv_icmp_ge (tgt := 89) dX1_init_67 (by decide) (by unfold sv_in; omega) (by decide) (fun h_67 => ?_) (fun h_67 => ?_)
      · have hn20 : n = 20 := by omega
        subst hn20
        refine sv_return dX1_init_89 rfl ?_
        refine ⟨rfl, by omega, fun x h => ?_, ⟨by omega, hk, ⟨hr4, hs1⟩, ⟨hr5, hs2⟩, ⟨hr6, hs3⟩, fun p p0 p1 => ?_, fun p p' a b a' b' hne => ?_⟩, fun x h => ⟨(hx x h).2.1, (hx x h).2.2⟩, hf, rfl, hb1⟩
        · by_cases e : x = q
          · subst e; exact hq
          · exact (hx x (by omega)).1
        · obtain ⟨h1, h2⟩ := hkp p.toNat (by omega)
          rw [show ((p.toNat : Nat) : Int) = p by omega] at h2
          exact ⟨h2, by constructor <;> (dsimp only; omega), h1⟩
        · dsimp only; omega
      · refine sv_aload_n (i := 0) dX1_init_70 rfl rfl ?_
        refine sv_getR (kz := 6) flX1_33 dX1_init_71 rfl rfl (by omega) hk hr6 ?_
        refine sv_iload_n (i := 1) dX1_init_74 rfl rfl ?_
        refine sv_aO (a := (q + 4 + 3 * n)) sv_cb0 z ⟨List.mem_of_getElem? (i := 74) (by decide +kernel), List.mem_of_getElem? (i := 76) (by decide +kernel), List.mem_of_getElem? (i := 51) (by decide +kernel)⟩ dX1_init_75 hb1 ⟨by show 3 + 3 * n + 1 ≤ 63; omega, by show 34 + 31 * n + 7 ≤ 654; omega⟩ (fun S2 zS2 bS2 => ?_)
        refine sv_dup dX1_init_78 rfl ?_
        refine sv_callI (As := []) (rest := [sv_r (q + 4 + 3 * n), sv_i (n : Int), sv_r (q + 3)]) clX1_37 (c_X0_init (i := q + 4 + 3 * n) zS2.1 (by rw [zS2.2.1]) bS2) (by decide) ⟨by show 3 + 3 * n + 1 + 2 ≤ 63; omega, by show 34 + 31 * n + 7 + 24 ≤ 654; omega⟩ rfl (Nat.le_of_ble_eq_true rfl) dX1_init_79 (fun rv S3 f3 r3 g3 hq3 => ?_)
        obtain ⟨rfl, y1, y2, y3, y4, y5, rfl, y6⟩ := hq3
        obtain ⟨u1, u2, u3⟩ := zS2
        have eS : ∀ x, x < q + 4 + 3 * n → S3.2 x = S1.2 x := fun x h => by rw [y2 x (by omega), u3 x h]
        have hk' := hk
        have hs1' := hs1
        have hs2' := hs2
        have hs3' := hs3
        have hk : (S3.2 q).1 = 1 := by rw [eS q (by omega)]; exact hk
        have hs1 : S3.2 (q + 1) = (6, 12) := by rw [eS _ (by omega)]; exact hs1
        have hs2 : S3.2 (q + 2) = (6, 2) := by rw [eS _ (by omega)]; exact hs2
        have hs3 : S3.2 (q + 3) = (8, 20) := by rw [eS _ (by omega)]; exact hs3
        have hlk : q + 4 + 3 * n < S3.1 := by omega
        have hkk0 := y3.k
        refine sv_aast (t := 0) dX1_init_82 (by omega) (by decide) rfl hs3 (by omega) hlk hkk0 ?_
        refine sv_iinc dX1_init_83 rfl (by decide) rfl ?_
        refine sv_goto (tgt := 64) dX1_init_86 (by decide) ?_
        have eR : ∀ x, x ≠ q + 4 + 3 * n → x ≠ q + 3 → sv_ur r3 (q + 3) (n : Int) (some (q + 4 + 3 * n)) x = r1 x := fun x h1 h2 => by rw [sv_ur_ne h2]; exact (y4 x h1).2
        have eF : ∀ x, x ≠ q + 4 + 3 * n → f3 x = f1 x := fun x h1 => (y4 x h1).1
        refine sv_castk (ih (n + 1) S3 f3 _ (by omega) (by omega) (by omega) hk hs1 hs2 hs3 (by rw [eR q (by omega) (by omega)]; exact hr4) (by rw [eR q (by omega) (by omega)]; exact hr5) (by rw [eR q (by omega) (by omega)]; exact hr6) (fun x h => ?_) (by rw [eS q (by omega)]; exact hq) (by rw [eF q (by omega), eF (q + 1) (by omega), eF (q + 2) (by omega)]; exact hf) (fun j hj => ?_) (y6.ur (by omega))) (by omega) (by show 34 + 31 * (n + 1) = 34 + 31 * n + 7 + 24; omega) rfl rfl rfl rfl rfl rfl
        · obtain ⟨h1, h2, h3⟩ := hx x h
          exact ⟨by rw [eS x (by omega)]; exact h1, by rw [eF x (by omega)]; exact h2, by rw [eR x (by omega) (by omega)]; exact h3⟩
        · by_cases e : j = n
          · subst e
            exact ⟨y3.mv (Nat.le_refl _) (fun _ _ => rfl) (sv_ur_ne (by omega)), by simp [sv_ur]⟩
          · obtain ⟨h1, h2⟩ := hkp j (by omega)
            refine ⟨h1.mv (by omega) (fun x h => eS x (by omega)) (eR _ (by omega) (by omega)), ?_⟩
            show (if q + 3 = q + 3 ∧ (j : Int) = (n : Int) then _ else r3 (q + 3) (j : Int)) = _
            rw [if_neg (by omega), (y4 (q + 3) (by omega)).2]; exact h2
  refine sv_aload_n (i := 0) dX1_init_0 rfl rfl ?_
  refine sv_objinit (List.mem_of_getElem? (i := 73) (by decide +kernel)) sv_oiw (Nat.le_of_ble_eq_true rfl) (by decide) dX1_init_1 ?_
  refine sv_aload_n (i := 0) dX1_init_4 rfl rfl ?_
  refine sv_iconst dX1_init_5 ?_
  refine sv_putI (kz := 0) flX1_9 dX1_init_6 (Or.inl rfl) rfl rfl (by omega) hk (by first | omega | exact hin _ _ | decide | (simp [sv_u, sv_row]; omega) | (simp [sv_u, sv_row]; exact hin _ _) | exact hin1 _ _ | (simp [sv_u, sv_row]; exact hin1 _ _)) ?_
  refine sv_aload_n (i := 0) dX1_init_9 rfl rfl ?_
  refine sv_iconst dX1_init_10 ?_
  refine sv_putI (kz := 1) flX1_15 dX1_init_11 (Or.inl rfl) rfl rfl (by omega) hk (by first | omega | exact hin _ _ | decide | (simp [sv_u, sv_row]; omega) | (simp [sv_u, sv_row]; exact hin _ _) | exact hin1 _ _ | (simp [sv_u, sv_row]; exact hin1 _ _)) ?_
  refine sv_aload_n (i := 0) dX1_init_14 rfl rfl ?_
  refine sv_iconst dX1_init_15 ?_
  refine sv_putI (kz := 2) flX1_18 dX1_init_16 (Or.inl rfl) rfl rfl (by omega) hk (by first | omega | exact hin _ _ | decide | (simp [sv_u, sv_row]; omega) | (simp [sv_u, sv_row]; exact hin _ _) | exact hin1 _ _ | (simp [sv_u, sv_row]; exact hin1 _ _)) ?_
  refine sv_aload_n (i := 0) dX1_init_19 rfl rfl ?_
  refine sv_iconst dX1_init_20 ?_
  refine sv_putI (kz := 3) flX1_21 dX1_init_21 (Or.inl rfl) rfl rfl (by omega) hk (by first | omega | exact hin _ _ | decide | (simp [sv_u, sv_row]; omega) | (simp [sv_u, sv_row]; exact hin _ _) | exact hin1 _ _ | (simp [sv_u, sv_row]; exact hin1 _ _)) ?_
  refine sv_aload_n (i := 0) dX1_init_24 rfl rfl ?_
  refine sv_bipush dX1_init_25 (by decide) ?_
  refine sv_aI (a := (q + 1)) hi rfl (by decide) dX1_init_27 ((((hb.u (by omega)).u (by omega)).u (by omega)).u (by omega)) ⟨by decide, by decide⟩ sv_arI (fun S1 zS1 bS1 => ?_)
  obtain ⟨z1, k1, e1⟩ := zS1
  have hk : (S1.2 q).1 = 1 := by rw [e1 q (by omega)]; exact hk
  refine sv_putR (kz := 4) flX1_24 dX1_init_29 (Or.inr ⟨rfl, _, rfl, rfl⟩) rfl rfl (by omega) hk ?_
  refine sv_aload_n (i := 0) dX1_init_32 rfl rfl ?_
  refine sv_iconst dX1_init_33 ?_
  refine sv_aI (a := (q + 2)) z1 rfl (by decide) dX1_init_34 (bS1.ur (by omega)) ⟨by decide, by decide⟩ sv_arI (fun S2 zS2 bS2 => ?_)
  obtain ⟨z2, k2, e2⟩ := zS2
  have hk : (S2.2 q).1 = 1 := by rw [e2 q (by omega)]; exact hk
  refine sv_putR (kz := 5) flX1_28 dX1_init_36 (Or.inr ⟨rfl, _, rfl, rfl⟩) rfl rfl (by omega) hk ?_
  refine sv_aload_n (i := 0) dX1_init_39 rfl rfl ?_
  refine sv_bipush dX1_init_40 (by decide) ?_
  refine sv_aA (a := (q + 3)) (t := 0) (by decide) z2 rfl (by decide) dX1_init_42 (bS2.ur (by omega)) ⟨by decide, by decide⟩ (List.mem_of_getElem? (i := 74) (by decide +kernel)) (fun S3 zS3 bS3 => ?_)
  obtain ⟨z3, k3, e3⟩ := zS3
  have hk : (S3.2 q).1 = 1 := by rw [e3 q (by omega)]; exact hk
  have hs1 : S3.2 (q + 1) = (6, 12) := by rw [e3 _ (by omega), e2 _ (by omega)]; exact k1
  have hs2 : S3.2 (q + 2) = (6, 2) := by rw [e3 _ (by omega)]; exact k2
  have hs3 : S3.2 (q + 3) = (8, 20) := k3
  refine sv_putR (kz := 6) flX1_33 dX1_init_45 (Or.inr ⟨rfl, _, rfl, rfl⟩) rfl rfl (by omega) hk ?_
  have hr5 : sv_ur (sv_ur (sv_ur r q 4 (some (q + 1))) q 5 (some (q + 2))) q 6 (some (q + 3)) q 5 = some (q + 2) := by simp [sv_ur]
  refine sv_aload_n (i := 0) dX1_init_48 rfl rfl ?_
  refine sv_getR (kz := 5) flX1_28 dX1_init_49 rfl rfl (by omega) hk hr5 ?_
  refine sv_iconst dX1_init_52 ?_
  refine sv_iconst dX1_init_53 ?_
  refine sv_iast dX1_init_54 (by omega) hs2 (by decide) (by first | omega | exact hin _ _ | decide | (simp [sv_u, sv_row]; omega) | (simp [sv_u, sv_row]; exact hin _ _) | exact hin1 _ _ | (simp [sv_u, sv_row]; exact hin1 _ _)) ?_
  refine sv_aload_n (i := 0) dX1_init_55 rfl rfl ?_
  refine sv_getR (kz := 5) flX1_28 dX1_init_56 rfl rfl (by omega) hk hr5 ?_
  refine sv_iconst dX1_init_59 ?_
  refine sv_iconst dX1_init_60 ?_
  refine sv_iast dX1_init_61 (by omega) hs2 (by decide) (by first | omega | exact hin _ _ | decide | (simp [sv_u, sv_row]; omega) | (simp [sv_u, sv_row]; exact hin _ _) | exact hin1 _ _ | (simp [sv_u, sv_row]; exact hin1 _ _)) ?_
  refine sv_iconst dX1_init_62 ?_
  refine sv_istore_n (i := 1) dX1_init_63 rfl (by decide) rfl ?_
  obtain ⟨v1, v2, v3⟩ := hb (q + 1) (by omega)
  refine sv_castk (lp 21 0 S3 _ _ (by omega) (by omega) (by omega) hk hs1 hs2 hs3 (by simp [sv_ur]) (by simp [sv_ur]) (by simp [sv_ur]) (fun x h => ⟨?_, ?_, ?_⟩) (by rw [e3 _ (by omega), e2 _ (by omega), e1 _ (by omega)]) ⟨by simp [sv_u], by simp [sv_u], by simp [sv_u], by simp [sv_u], ?_, by simp [sv_u], by simp [sv_u]⟩ (fun j hj => by omega) (((bS3.ur (by omega)).u (by omega)).u (by omega))) rfl rfl rfl rfl rfl rfl rfl rfl
  · rw [e3 _ (by omega), e2 _ (by omega), e1 _ (by omega)]
  · rw [sv_u_ne (by omega), sv_u_ne (by omega), sv_u_ne (by omega), sv_u_ne (by omega), sv_u_ne (by omega), sv_u_ne (by omega)]
  · rw [sv_ur_ne (by omega), sv_ur_ne (by omega), sv_ur_ne (by omega)]
  · rw [sv_u_ne (by omega), sv_u_ne (by omega), sv_u_ne (by omega), sv_u_ne (by omega), sv_u_ne (by omega), sv_u_ne (by omega)]; exact v1
