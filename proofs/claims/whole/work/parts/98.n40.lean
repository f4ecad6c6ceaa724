/-- the table at the start -/
def sp_m0 : Int → Int := fun j => if j = 582 then 1 else if j = 595 then -1 else if j = 596 then 4 else if j = 597 then 1 else 0
set_option maxRecDepth 100000 in
set_option maxHeartbeats 4000000 in
theorem c_X5_init {X : sv_X} {S : sv_S} {f : sv_F} {r : sv_R} {g : sv_G} {i : Nat} (hi : S.1 = i + 1) (hk : (S.2 i).1 = 5) (hb : sv_bl S f r g) : sv_C X 1 MX5_init 9 4438 [sv_r i] S f r g ((fun rv' S' f' r' g' => rv' = none ∧ S'.1 = i + 10 ∧ (∀ x, x < i + 1 → S'.2 x = S.2 x) ∧ sv_M5 S' r' i ∧ (∀ x, x < i → f' x = f x ∧ r' x = r x) ∧ f' i = f i ∧ f' (i + 1) = sp_m0 ∧ (∀ j : Nat, 2 ≤ j → j ≤ 9 → f' (i + j) = fun _ => 0) ∧ g' = g ∧ sv_bl S' f' r' g')) := by
  refine sv_met (by decide) (by simp [lg_sl, sv_cv, va_rf, Value.category]) ?_
  refine sv_fr fun hin => ?_
  refine sv_aload_n (i := 0) dX5_init_0 rfl rfl ?_
  refine sv_objinit (List.mem_of_getElem? (i := 635) (by decide +kernel)) sv_oiw (Nat.le_of_ble_eq_true rfl) (by decide) dX5_init_1 ?_
  refine sv_aload_n (i := 0) dX5_init_4 rfl rfl ?_
  refine sv_sipush dX5_init_5 (by decide) ?_
  refine sv_aI (a := (i + 1)) hi rfl (by decide) dX5_init_8 hb ⟨by decide, by decide⟩ sv_arI (fun S1 zS1 bS1 => ?_)
  obtain ⟨z1, k1, e1⟩ := zS1
  have hk0 := hk
  have hk : (S1.2 i).1 = 5 := by rw [e1 i (by omega)]; exact hk
  refine sv_putR (kz := 0) flX5_7 dX5_init_10 (Or.inr ⟨rfl, _, rfl, rfl⟩) rfl rfl (by omega) hk ?_
  refine sv_aload_n (i := 0) dX5_init_13 rfl rfl ?_
  refine sv_sipush dX5_init_14 (by decide) ?_
  refine sv_aI (a := (i + 2)) z1 rfl (by decide) dX5_init_17 (bS1.ur (by omega)) ⟨by decide, by decide⟩ sv_arI (fun S2 zS2 bS2 => ?_)
  obtain ⟨z2, k2, e2⟩ := zS2
  have hk1 := hk
  have hk : (S2.2 i).1 = 5 := by rw [e2 i (by omega)]; exact hk
  refine sv_putR (kz := 1) flX5_13 dX5_init_19 (Or.inr ⟨rfl, _, rfl, rfl⟩) rfl rfl (by omega) hk ?_
  refine sv_aload_n (i := 0) dX5_init_22 rfl rfl ?_
  refine sv_bipush dX5_init_23 (by decide) ?_
  refine sv_aI (a := (i + 3)) z2 rfl (by decide) dX5_init_25 (bS2.ur (by omega)) ⟨by decide, by decide⟩ sv_arI (fun S3 zS3 bS3 => ?_)
  obtain ⟨z3, k3, e3⟩ := zS3
  have hk2 := hk
  have hk : (S3.2 i).1 = 5 := by rw [e3 i (by omega)]; exact hk
  refine sv_putR (kz := 3) flX5_16 dX5_init_27 (Or.inr ⟨rfl, _, rfl, rfl⟩) rfl rfl (by omega) hk ?_
  refine sv_aload_n (i := 0) dX5_init_30 rfl rfl ?_
  refine sv_bipush dX5_init_31 (by decide) ?_
  refine sv_aI (a := (i + 4)) z3 rfl (by decide) dX5_init_33 (bS3.ur (by omega)) ⟨by decide, by decide⟩ sv_arI (fun S4 zS4 bS4 => ?_)
  obtain ⟨z4, k4, e4⟩ := zS4
  have hk3 := hk
  have hk : (S4.2 i).1 = 5 := by rw [e4 i (by omega)]; exact hk
  refine sv_putR (kz := 5) flX5_19 dX5_init_35 (Or.inr ⟨rfl, _, rfl, rfl⟩) rfl rfl (by omega) hk ?_
  refine sv_aload_n (i := 0) dX5_init_38 rfl rfl ?_
  refine sv_bipush dX5_init_39 (by decide) ?_
  refine sv_aI (a := (i + 5)) z4 rfl (by decide) dX5_init_41 (bS4.ur (by omega)) ⟨by decide, by decide⟩ sv_arI (fun S5 zS5 bS5 => ?_)
  obtain ⟨z5, k5, e5⟩ := zS5
  have hk4 := hk
  have hk : (S5.2 i).1 = 5 := by rw [e5 i (by omega)]; exact hk
  refine sv_putR (kz := 6) flX5_22 dX5_init_43 (Or.inr ⟨rfl, _, rfl, rfl⟩) rfl rfl (by omega) hk ?_
  refine sv_aload_n (i := 0) dX5_init_46 rfl rfl ?_
  refine sv_bipush dX5_init_47 (by decide) ?_
  refine sv_aI (a := (i + 6)) z5 rfl (by decide) dX5_init_49 (bS5.ur (by omega)) ⟨by decide, by decide⟩ sv_arI (fun S6 zS6 bS6 => ?_)
  obtain ⟨z6, k6, e6⟩ := zS6
  have hk5 := hk
  have hk : (S6.2 i).1 = 5 := by rw [e6 i (by omega)]; exact hk
  refine sv_putR (kz := 8) flX5_25 dX5_init_51 (Or.inr ⟨rfl, _, rfl, rfl⟩) rfl rfl (by omega) hk ?_
  refine sv_aload_n (i := 0) dX5_init_54 rfl rfl ?_
  refine sv_bipush dX5_init_55 (by decide) ?_
  refine sv_aI (a := (i + 7)) z6 rfl (by decide) dX5_init_57 (bS6.ur (by omega)) ⟨by decide, by decide⟩ sv_arI (fun S7 zS7 bS7 => ?_)
  obtain ⟨z7, k7, e7⟩ := zS7
  have hk6 := hk
  have hk : (S7.2 i).1 = 5 := by rw [e7 i (by omega)]; exact hk
  refine sv_putR (kz := 9) flX5_28 dX5_init_59 (Or.inr ⟨rfl, _, rfl, rfl⟩) rfl rfl (by omega) hk ?_
  refine sv_aload_n (i := 0) dX5_init_62 rfl rfl ?_
  refine sv_bipush dX5_init_63 (by decide) ?_
  refine sv_aI (a := (i + 8)) z7 rfl (by decide) dX5_init_65 (bS7.ur (by omega)) ⟨by decide, by decide⟩ sv_arI (fun S8 zS8 bS8 => ?_)
  obtain ⟨z8, k8, e8⟩ := zS8
  have hk7 := hk
  have hk : (S8.2 i).1 = 5 := by rw [e8 i (by omega)]; exact hk
  refine sv_putR (kz := 13) flX5_31 dX5_init_67 (Or.inr ⟨rfl, _, rfl, rfl⟩) rfl rfl (by omega) hk ?_
  refine sv_aload_n (i := 0) dX5_init_70 rfl rfl ?_
  refine sv_bipush dX5_init_71 (by decide) ?_
  refine sv_aZ (a := (i + 9)) z8 rfl (by decide) dX5_init_73 (bS8.ur (by omega)) ⟨by decide, by decide⟩ sv_arZ (fun S9 zS9 bS9 => ?_)
  obtain ⟨z9, k9, e9⟩ := zS9
  have hk8 := hk
  have hk : (S9.2 i).1 = 5 := by rw [e9 i (by omega)]; exact hk
  refine sv_putR (kz := 15) flX5_34 dX5_init_75 (Or.inr ⟨rfl, _, rfl, rfl⟩) rfl rfl (by omega) hk ?_
  refine sv_aload_n (i := 0) dX5_init_78 rfl rfl ?_
  have hr0 : (sv_ur (sv_ur (sv_ur (sv_ur (sv_ur (sv_ur (sv_ur (sv_ur (sv_ur r i 0 (some (i + 1))) i 1 (some (i + 2))) i 3 (some (i + 3))) i 5 (some (i + 4))) i 6 (some (i + 5))) i 8 (some (i + 6))) i 9 (some (i + 7))) i 13 (some (i + 8))) i 15 (some (i + 9))) i 0 = some (i + 1) := by simp [sv_ur]
  have hs1 : S9.2 (i + 1) = (6, 598) := by rw [e9 _ (by omega), e8 _ (by omega), e7 _ (by omega), e6 _ (by omega), e5 _ (by omega), e4 _ (by omega), e3 _ (by omega), e2 _ (by omega), k1]
  refine sv_getR (kz := 0) flX5_7 dX5_init_79 rfl rfl (by omega) hk hr0 ?_
  refine sv_sipush dX5_init_82 (by decide) ?_
  refine sv_iconst dX5_init_85 ?_
  refine sv_iast dX5_init_86 (by omega) hs1 (by decide) (by first | omega | exact hin _ _ | decide | (simp [sv_u, sv_row]; omega) | (simp [sv_u, sv_row]; exact hin _ _) | exact hin1 _ _ | (simp [sv_u, sv_row]; exact hin1 _ _)) ?_
  refine sv_aload_n (i := 0) dX5_init_87 rfl rfl ?_
  refine sv_getR (kz := 0) flX5_7 dX5_init_88 rfl rfl (by omega) hk hr0 ?_
  refine sv_sipush dX5_init_91 (by decide) ?_
  refine sv_iconst dX5_init_94 ?_
  refine sv_iast dX5_init_95 (by omega) hs1 (by decide) (by first | omega | exact hin _ _ | decide | (simp [sv_u, sv_row]; omega) | (simp [sv_u, sv_row]; exact hin _ _) | exact hin1 _ _ | (simp [sv_u, sv_row]; exact hin1 _ _)) ?_
  refine sv_aload_n (i := 0) dX5_init_96 rfl rfl ?_
  refine sv_getR (kz := 0) flX5_7 dX5_init_97 rfl rfl (by omega) hk hr0 ?_
  refine sv_sipush dX5_init_100 (by decide) ?_
  refine sv_iconst dX5_init_103 ?_
  refine sv_iast dX5_init_104 (by omega) hs1 (by decide) (by first | omega | exact hin _ _ | decide | (simp [sv_u, sv_row]; omega) | (simp [sv_u, sv_row]; exact hin _ _) | exact hin1 _ _ | (simp [sv_u, sv_row]; exact hin1 _ _)) ?_
  refine sv_aload_n (i := 0) dX5_init_105 rfl rfl ?_
  refine sv_getR (kz := 0) flX5_7 dX5_init_106 rfl rfl (by omega) hk hr0 ?_
  refine sv_sipush dX5_init_109 (by decide) ?_
  refine sv_iconst dX5_init_112 ?_
  refine sv_iast dX5_init_113 (by omega) hs1 (by decide) (by first | omega | exact hin _ _ | decide | (simp [sv_u, sv_row]; omega) | (simp [sv_u, sv_row]; exact hin _ _) | exact hin1 _ _ | (simp [sv_u, sv_row]; exact hin1 _ _)) ?_
  refine sv_return dX5_init_114 rfl ?_
  obtain ⟨v1, -, -⟩ := hb (i + 1) (by omega)
  refine ⟨rfl, by omega, fun x hx => ?_, ⟨by omega, hk, ⟨by simp [sv_ur], by rw [e9 _ (by omega), e8 _ (by omega), e7 _ (by omega), e6 _ (by omega), e5 _ (by omega), e4 _ (by omega), e3 _ (by omega), e2 _ (by omega), k1]⟩, ⟨by simp [sv_ur], by rw [e9 _ (by omega), e8 _ (by omega), e7 _ (by omega), e6 _ (by omega), e5 _ (by omega), e4 _ (by omega), e3 _ (by omega), k2]⟩, ⟨by simp [sv_ur], by rw [e9 _ (by omega), e8 _ (by omega), e7 _ (by omega), e6 _ (by omega), e5 _ (by omega), e4 _ (by omega), k3]⟩, ⟨by simp [sv_ur], by rw [e9 _ (by omega), e8 _ (by omega), e7 _ (by omega), e6 _ (by omega), e5 _ (by omega), k4]⟩, ⟨by simp [sv_ur], by rw [e9 _ (by omega), e8 _ (by omega), e7 _ (by omega), e6 _ (by omega), k5]⟩, ⟨by simp [sv_ur], by rw [e9 _ (by omega), e8 _ (by omega), e7 _ (by omega), k6]⟩, ⟨by simp [sv_ur], by rw [e9 _ (by omega), e8 _ (by omega), k7]⟩, ⟨by simp [sv_ur], by rw [e9 _ (by omega), k8]⟩, ⟨by simp [sv_ur], by exact k9⟩⟩, fun x hx => ⟨?_, ?_⟩, ?_, ?_, fun j j2 j9 => ?_, rfl, ((((bS9.ur (by omega)).u (by omega)).u (by omega)).u (by omega)).u (by omega)⟩
  · rw [e9 x (by omega), e8 x (by omega), e7 x (by omega), e6 x (by omega), e5 x (by omega), e4 x (by omega), e3 x (by omega), e2 x (by omega), e1 x (by omega)]
  · rw [sv_u_ne (by omega), sv_u_ne (by omega), sv_u_ne (by omega), sv_u_ne (by omega)]
  · rw [sv_ur_ne (by omega), sv_ur_ne (by omega), sv_ur_ne (by omega), sv_ur_ne (by omega), sv_ur_ne (by omega), sv_ur_ne (by omega), sv_ur_ne (by omega), sv_ur_ne (by omega), sv_ur_ne (by omega)]
  · rw [sv_u_ne (by omega), sv_u_ne (by omega), sv_u_ne (by omega), sv_u_ne (by omega)]
  · funext j
    simp only [sv_u_at, v1, sp_m0]
    by_cases h1 : j = 582
    · subst h1; simp
    · by_cases h2 : j = 595
      · subst h2; simp
      · by_cases h3 : j = 596
        · subst h3; simp
        · by_cases h4 : j = 597
          · subst h4; simp
          · simp [h1, h2, h3, h4]
  · rw [sv_u_ne (by omega), sv_u_ne (by omega), sv_u_ne (by omega), sv_u_ne (by omega)]
    exact (hb (i + j) (by omega)).1
