set_option maxRecDepth 100000 in
set_option maxHeartbeats 4000000 in
theorem c_X3_init {X : sv_X} {S : sv_S} {f : sv_F} {r : sv_R} {g : sv_G} {i : Nat} (hi : S.1 = i + 1) (hk : (S.2 i).1 = 3) (hb : sv_bl S f r g) : sv_C X 1 MX3_init 2 92 [sv_r i] S f r g ((fun rv' S' f' r' g' => rv' = none ∧ S'.1 = i + 3 ∧ (∀ x, x < i + 1 → S'.2 x = S.2 x) ∧ sv_K3 S' r' i (i + 1) (i + 2) ∧ (∀ x, x ≠ i → f' x = f x ∧ r' x = r x) ∧ f' i 1 = 0 ∧ g' = g ∧ sv_bl S' f' r' g')) := by
  refine sv_met (by decide) (by simp [lg_sl, sv_cv, va_rf, Value.category]) ?_
  refine sv_fr fun hin => ?_
  refine sv_aload_n (i := 0) dX3_init_0 rfl rfl ?_
  refine sv_objinit (List.mem_of_getElem? (i := 156) (by decide +kernel)) sv_oiw (Nat.le_of_ble_eq_true rfl) (by decide) dX3_init_1 ?_
  refine sv_aload_n (i := 0) dX3_init_4 rfl rfl ?_
  refine sv_bipush dX3_init_5 (by decide) ?_
  refine sv_aI (a := (i + 1)) hi rfl (by decide) dX3_init_7 hb ⟨by decide, by decide⟩ sv_arI (fun S1 zS1 bS1 => ?_)
  obtain ⟨z1, k1, e1⟩ := zS1
  have hk0 := hk
  have hk : (S1.2 i).1 = 3 := by rw [e1 i (by omega)]; exact hk
  refine sv_putR (kz := 0) flX3_9 dX3_init_9 (Or.inr ⟨rfl, _, rfl, rfl⟩) rfl rfl (by omega) hk ?_
  refine sv_aload_n (i := 0) dX3_init_12 rfl rfl ?_
  refine sv_iconst dX3_init_13 ?_
  refine sv_putI (kz := 1) flX3_15 dX3_init_14 (Or.inl rfl) rfl rfl (by omega) hk (by first | omega | exact hin _ _ | decide | (simp [sv_u, sv_row]; omega) | (simp [sv_u, sv_row]; exact hin _ _) | exact hin1 _ _ | (simp [sv_u, sv_row]; exact hin1 _ _)) ?_
  refine sv_aload_n (i := 0) dX3_init_17 rfl rfl ?_
  refine sv_bipush dX3_init_18 (by decide) ?_
  refine sv_aI (a := (i + 2)) z1 rfl (by decide) dX3_init_20 ((bS1.ur (by omega)).u (by omega)) ⟨by decide, by decide⟩ sv_arI (fun S2 zS2 bS2 => ?_)
  obtain ⟨z2, k2, e2⟩ := zS2
  have hk1 := hk
  have hk : (S2.2 i).1 = 3 := by rw [e2 i (by omega)]; exact hk
  refine sv_putR (kz := 2) flX3_19 dX3_init_22 (Or.inr ⟨rfl, _, rfl, rfl⟩) rfl rfl (by omega) hk ?_
  refine sv_aload_n (i := 0) dX3_init_25 rfl rfl ?_
  refine sv_iconst dX3_init_26 ?_
  refine sv_putI (kz := 3) flX3_22 dX3_init_27 (Or.inl rfl) rfl rfl (by omega) hk (by first | omega | exact hin _ _ | decide | (simp [sv_u, sv_row]; omega) | (simp [sv_u, sv_row]; exact hin _ _) | exact hin1 _ _ | (simp [sv_u, sv_row]; exact hin1 _ _)) ?_
  refine sv_aload_n (i := 0) dX3_init_30 rfl rfl ?_
  refine sv_iconst dX3_init_31 ?_
  refine sv_putI (kz := 4) flX3_25 dX3_init_32 (Or.inl rfl) rfl rfl (by omega) hk (by first | omega | exact hin _ _ | decide | (simp [sv_u, sv_row]; omega) | (simp [sv_u, sv_row]; exact hin _ _) | exact hin1 _ _ | (simp [sv_u, sv_row]; exact hin1 _ _)) ?_
  refine sv_aload_n (i := 0) dX3_init_35 rfl rfl ?_
  refine sv_iconst dX3_init_36 ?_
  refine sv_putI (kz := 5) flX3_28 dX3_init_37 (Or.inl rfl) rfl rfl (by omega) hk (by first | omega | exact hin _ _ | decide | (simp [sv_u, sv_row]; omega) | (simp [sv_u, sv_row]; exact hin _ _) | exact hin1 _ _ | (simp [sv_u, sv_row]; exact hin1 _ _)) ?_
  refine sv_return dX3_init_40 rfl ?_
  refine ⟨rfl, z2, fun x hx => by rw [e2 x (by omega), e1 x (by omega)], ⟨by omega, hk, ⟨by simp [sv_ur], by omega, ?_⟩, ⟨by simp [sv_ur], by omega, k2⟩, by omega, by omega, by omega⟩, fun x hx => ⟨?_, ?_⟩, by simp [sv_u], rfl, (((bS2.ur (by omega)).u (by omega)).u (by omega)).u (by omega)⟩
  · rw [e2 _ (by omega), k1]
  · rw [sv_u_ne hx, sv_u_ne hx, sv_u_ne hx, sv_u_ne hx]
  · rw [sv_ur_ne hx, sv_ur_ne hx]
set_option maxRecDepth 100000 in
set_option maxHeartbeats 4000000 in
theorem c_X2_init {X : sv_X} {S : sv_S} {f : sv_F} {r : sv_R} {g : sv_G} {i : Nat} (hi : S.1 = i + 1) (hk : (S.2 i).1 = 2) (hb : sv_bl S f r g) : sv_C X 1 MX2_init 22 280 [sv_r i] S f r g ((fun rv' S' f' r' g' => rv' = none ∧ S'.1 = i + 23 ∧ (∀ x, x < i + 1 → S'.2 x = S.2 x) ∧ sv_K2 S' r' i (i + 1) (i + 22) (fun p => i + 2 + p.toNat) ∧ f' = f ∧ (∀ x, x < i → r' x = r x) ∧ g' = g ∧ sv_bl S' f' r' g')) := by
  refine sv_met (by decide) (by simp [lg_sl, sv_cv, va_rf, Value.category]) ?_
  refine sv_fr fun hin => ?_
  refine sv_aload_n (i := 0) dX2_init_0 rfl rfl ?_
  refine sv_objinit (List.mem_of_getElem? (i := 184) (by decide +kernel)) sv_oiw (Nat.le_of_ble_eq_true rfl) (by decide) dX2_init_1 ?_
  refine sv_aload_n (i := 0) dX2_init_4 rfl rfl ?_
  refine sv_bipush dX2_init_5 (by decide) ?_
  refine sv_bipush dX2_init_7 (by decide) ?_
  refine sv_aM (a := i + 1) (N := 20) (K := 12) hi rfl rfl (by decide) (by decide) dX2_init_9 hb ⟨by decide, by decide⟩ (List.mem_of_getElem? (i := 185) (by decide +kernel)) sv_arI (fun S1 r1 z1 k1 kp1 e1 rp1 re1 bS1 => ?_)
  have hk0 := hk
  have hk : (S1.2 i).1 = 2 := by rw [e1 i (by omega)]; exact hk
  refine sv_putR (kz := 0) flX2_11 dX2_init_13 (Or.inr ⟨rfl, _, rfl, rfl⟩) rfl rfl (by omega) hk ?_
  refine sv_aload_n (i := 0) dX2_init_16 rfl rfl ?_
  refine sv_bipush dX2_init_17 (by decide) ?_
  refine sv_aI (a := (i + 22)) (by omega) rfl (by decide) dX2_init_19 (bS1.ur (by omega)) ⟨by decide, by decide⟩ sv_arI (fun S2 zS2 bS2 => ?_)
  obtain ⟨z2, k2, e2⟩ := zS2
  have hk1 := hk
  have hk : (S2.2 i).1 = 2 := by rw [e2 i (by omega)]; exact hk
  refine sv_putR (kz := 1) flX2_16 dX2_init_21 (Or.inr ⟨rfl, _, rfl, rfl⟩) rfl rfl (by omega) hk ?_
  refine sv_return dX2_init_24 rfl ?_
  refine ⟨rfl, by omega, fun x hx => by rw [e2 x (by omega), e1 x (by omega)], ⟨by omega, hk, ⟨by simp [sv_ur], by omega, ?_⟩, ⟨by simp [sv_ur], by omega, k2⟩, fun p p0 p1 => ⟨?_, ?_, ?_, ?_⟩, fun p p' a b a' b' hne => ?_⟩, rfl, fun x hx => ?_, rfl, bS2.ur (by omega)⟩
  · rw [e2 _ (by omega), k1]
  · have := rp1 p.toNat (by omega)
    rw [show ((p.toNat : Nat) : Int) = p by omega] at this
    rw [sv_ur_ne (by omega), sv_ur_ne (by omega), this]
  · dsimp only; omega
  · show S2.2 (i + 2 + p.toNat) = _
    rw [e2 _ (by omega), show i + 2 + p.toNat = i + 1 + 1 + p.toNat by omega]; exact kp1 p.toNat (by omega)
  · dsimp only; omega
  · dsimp only; omega
  · rw [sv_ur_ne (by omega), sv_ur_ne (by omega), re1 x (by omega)]
