set_option maxRecDepth 100000 in
set_option maxHeartbeats 4000000 in
theorem c_X4_sizeOf {X : sv_X} {S : sv_S} {f : sv_F} {r : sv_R} {g : sv_G} (a : Int) : sv_C X 0 MX4_sizeOf 0 0 [sv_i a] S f r g (sv_qp (some (sv_i (6 + 2 * a))) S f r g) := by
  refine sv_met (by decide) (by simp [lg_sl, sv_cv, va_rf, Value.category]) ?_
  refine sv_bipush dX4_sizeOf_0 (by decide) ?_
  refine sv_iconst dX4_sizeOf_2 ?_
  refine sv_iload_n (i := 0) dX4_sizeOf_3 rfl rfl ?_
  refine sv_imul dX4_sizeOf_4 ?_
  refine sv_iadd dX4_sizeOf_5 ?_
  refine sv_ireturn dX4_sizeOf_6 rfl ?_
  exact ⟨rfl, rfl, rfl, rfl, rfl⟩
set_option maxRecDepth 100000 in
set_option maxHeartbeats 4000000 in
theorem c_X4_sumOf {X : sv_X} {S : sv_S} {f : sv_F} {r : sv_R} {g : sv_G} {a : Nat} {fm : Int} (ha : a < S.1 ∧ S.2 a = (6, 12)) (hfm : 1 ≤ fm ∧ fm ≤ 3) (hv : sp_ok (f a) (6 + 2 * fm)) : sv_C X 1 MX4_sumOf 0 0 [sv_r a, sv_i fm] S f r g (sv_qp (some (sv_i (sp_sm (f a) (6 + 2 * fm).toNat))) S f r g) := by
  refine sv_met (by decide) (by simp [lg_sl, sv_cv, va_rf, Value.category]) ?_
  refine sv_fr fun hin => ?_
  have lp : ∀ (k : Nat) (s : Nat), 6 + 2 * fm - (s : Int) < (k : Int) → ((s : Int) ≤ 6 + 2 * fm) → sv_T X (sv_rm 1 0 0) MX4_sumOf (sv_Zm X 0 0 (sv_qp (some (sv_i (sp_sm (f a) (6 + 2 * fm).toNat))) S f r g)) 0 0 5 [some (sv_r a), some (sv_i fm), some (sv_i (sp_sm (f a) s)), some (sv_i (s : Nat))] [] S (f) r g := by
    intro k
    induction k with
    | zero =>
      intro s hk h1
      exact absurd hk (by omega)
    | succ k ih =>
      intro s hk h1
      refine sv_iload_n (i := 3) dX4_sumOf_5 rfl rfl ?_
      refine sv_iload_n (i := 1) dX4_sumOf_6 rfl rfl ?_
      refine sv_sp0 (As := [_]) clX4_57 dX4_sumOf_7 rfl (Nat.le_of_ble_eq_true rfl) (by decide) (by decide) (c_X4_sizeOf _) ?_
      refine sv_icmp_ge (tgt := 32) dX4_sumOf_10 (by decide) (by first | omega | exact hin _ _ | decide | (simp [sv_u, sv_row]; omega) | (simp [sv_u, sv_row]; exact hin _ _) | exact hin1 _ _ | (simp [sv_u, sv_row]; exact hin1 _ _)) (by first | omega | exact hin _ _ | decide | (simp [sv_u, sv_row]; omega) | (simp [sv_u, sv_row]; exact hin _ _) | exact hin1 _ _ | (simp [sv_u, sv_row]; exact hin1 _ _)) (fun h_10 => ?_) (fun h_10 => ?_)
      · refine sv_iload_n (i := 2) dX4_sumOf_32 rfl rfl ?_
        refine sv_ireturn dX4_sumOf_33 rfl ?_
        exact ⟨by rw [show (6 + 2 * fm).toNat = s by omega], rfl, rfl, rfl, rfl⟩
      · have a1 := hv s (by omega) (by omega)
        have b1 := sp_sm_in (f a) s
        refine sv_bipush dX4_sumOf_13 (by decide) ?_
        refine sv_iload_n (i := 2) dX4_sumOf_15 rfl rfl ?_
        refine sv_imul dX4_sumOf_16 ?_
        refine sv_aload_n (i := 0) dX4_sumOf_17 rfl rfl ?_
        refine sv_iload_n (i := 3) dX4_sumOf_18 rfl rfl ?_
        refine sv_iald dX4_sumOf_19 ha.1 ha.2 (by omega) ?_
        refine sv_iadd dX4_sumOf_20 ?_
        refine sv_sipush dX4_sumOf_21 (by decide) ?_
        refine sv_irem dX4_sumOf_24 (by omega) (by decide) ?_
        refine sv_istore_n (i := 2) dX4_sumOf_25 rfl (by decide) rfl ?_
        refine sv_iinc dX4_sumOf_26 rfl (by decide) rfl ?_
        refine sv_goto (tgt := 5) dX4_sumOf_29 (by decide) ?_
        exact sv_cast (ih (s + 1) (by omega) (by omega)) rfl rfl rfl rfl rfl rfl
  refine sv_bipush dX4_sumOf_0 (by decide) ?_
  refine sv_istore_n (i := 2) dX4_sumOf_2 rfl (by decide) rfl ?_
  refine sv_iconst dX4_sumOf_3 ?_
  refine sv_istore_n (i := 3) dX4_sumOf_4 rfl (by decide) rfl ?_
  exact lp (6 + 2 * fm + 1).toNat 0 (by omega) (by omega)
set_option maxRecDepth 100000 in
set_option maxHeartbeats 4000000 in
theorem c_X4_raiseValues {X : sv_X} {S : sv_S} {f : sv_F} {r : sv_R} {g : sv_G} {a : Nat} {p q : Int} (ha : a < S.1 ∧ S.2 a = (6, 12)) (hp : 1 ≤ p ∧ p ≤ 3) (hq : sv_in q) (hv : p < q → sp_ok (f a) (6 + 2 * p)) : sv_C X 1 MX4_raiseValues 0 0 [sv_r a, sv_i p, sv_i q] S f r g (sv_qv (fun f' => f' = sv_row f a (sp_rz (f a) p q)) S r g) := by
  refine sv_met (by decide) (by simp [lg_sl, sv_cv, va_rf, Value.category]) ?_
  refine sv_fr fun hin => ?_
  have hok9 : 3 ≤ q → p ≤ 2 → 0 ≤ (if p ≤ 1 ∧ 2 ≤ q then sp_r1 (f a) else f a) 9 ∧ (if p ≤ 1 ∧ 2 ≤ q then sp_r1 (f a) else f a) 9 ≤ 99 := by
    intro h1 h2
    split
    · have := hv (by omega) 7 (by omega) (by omega)
      simp [sp_r1]; exact this
    · exact hv (by omega) 9 (by omega) (by omega)
  have hin1 : ∀ j, sv_in ((if p ≤ 1 ∧ 2 ≤ q then sp_r1 (f a) else f a) j) := by
    intro j
    split
    · unfold sp_r1
      split
      · have a0 := hv (by omega) 0 (by omega) (by omega)
        have a1 := hv (by omega) 1 (by omega) (by omega)
        have a2 := hv (by omega) 2 (by omega) (by omega)
        omega
      · split <;> exact hin _ _
    · exact hin _ _
  have g35 : ∀ V, V = (if p ≤ 1 ∧ 2 ≤ q then sp_r1 (f a) else f a) → sv_T X (sv_rm 1 0 0) MX4_raiseValues (sv_Zm X 0 0 (sv_qv (fun f' => f' = sv_row f a (sp_rz (f a) p q)) S r g)) 0 0 35 [some (sv_r a), some (sv_i p), some (sv_i q), none] [] S ((sv_row f a V)) r g := by
    intro V hV
    rw [← hV] at hok9 hin1
    refine sv_iload_n (i := 1) dX4_raiseValues_35 rfl rfl ?_
    refine sv_iconst dX4_raiseValues_36 ?_
    refine sv_icmp_gt (tgt := 80) dX4_raiseValues_37 (by decide) (by first | omega | exact hin _ _ | decide | (simp [sv_u, sv_row]; omega) | (simp [sv_u, sv_row]; exact hin _ _) | exact hin1 _ _ | (simp [sv_u, sv_row]; exact hin1 _ _)) (by first | omega | exact hin _ _ | decide | (simp [sv_u, sv_row]; omega) | (simp [sv_u, sv_row]; exact hin _ _) | exact hin1 _ _ | (simp [sv_u, sv_row]; exact hin1 _ _)) (fun h_37 => ?_) (fun h_37 => ?_)
    · refine sv_return dX4_raiseValues_80 rfl ?_
      refine ⟨rfl, rfl, rfl, rfl, ?_⟩
      unfold sp_rz
      rw [← hV]
      first
      | (rw [if_neg (by omega)]; done)
      | (rw [if_pos (by omega)]; funext x y; grind [sv_u, sv_row, sp_r2])
    · refine sv_iload_n (i := 2) dX4_raiseValues_40 rfl rfl ?_
      refine sv_iconst dX4_raiseValues_41 ?_
      refine sv_icmp_lt (tgt := 80) dX4_raiseValues_42 (by decide) (by first | omega | exact hin _ _ | decide | (simp [sv_u, sv_row]; omega) | (simp [sv_u, sv_row]; exact hin _ _) | exact hin1 _ _ | (simp [sv_u, sv_row]; exact hin1 _ _)) (by first | omega | exact hin _ _ | decide | (simp [sv_u, sv_row]; omega) | (simp [sv_u, sv_row]; exact hin _ _) | exact hin1 _ _ | (simp [sv_u, sv_row]; exact hin1 _ _)) (fun h_42 => ?_) (fun h_42 => ?_)
      · refine sv_return dX4_raiseValues_80 rfl ?_
        refine ⟨rfl, rfl, rfl, rfl, ?_⟩
        unfold sp_rz
        rw [← hV]
        first
        | (rw [if_neg (by omega)]; done)
        | (rw [if_pos (by omega)]; funext x y; grind [sv_u, sv_row, sp_r2])
      · have h9 := hok9 (by omega) (by omega)
        refine sv_aload_n (i := 0) dX4_raiseValues_45 rfl rfl ?_
        refine sv_iconst dX4_raiseValues_46 ?_
        refine sv_iald dX4_raiseValues_47 ha.1 ha.2 (by omega) ?_
        rw [sv_row_eq]
        refine sv_istore_n (i := 3) dX4_raiseValues_48 rfl (by decide) rfl ?_
        refine sv_aload_n (i := 0) dX4_raiseValues_49 rfl rfl ?_
        refine sv_iconst dX4_raiseValues_50 ?_
        refine sv_aload_n (i := 0) dX4_raiseValues_51 rfl rfl ?_
        refine sv_iconst dX4_raiseValues_52 ?_
        refine sv_iald dX4_raiseValues_53 ha.1 ha.2 (by omega) ?_
        simp only [sv_row_eq]
        refine sv_iast dX4_raiseValues_54 ha.1 ha.2 (by omega) (hin1 _) ?_
        refine sv_aload_n (i := 0) dX4_raiseValues_55 rfl rfl ?_
        refine sv_iconst dX4_raiseValues_56 ?_
        refine sv_iload_n (i := 3) dX4_raiseValues_57 rfl rfl ?_
        refine sv_iast dX4_raiseValues_58 ha.1 ha.2 (by omega) (hin1 _) ?_
        refine sv_aload_n (i := 0) dX4_raiseValues_59 rfl rfl ?_
        refine sv_bipush dX4_raiseValues_60 (by decide) ?_
        refine sv_bipush dX4_raiseValues_62 (by decide) ?_
        refine sv_iconst dX4_raiseValues_64 ?_
        refine sv_aload_n (i := 0) dX4_raiseValues_65 rfl rfl ?_
        refine sv_bipush dX4_raiseValues_66 (by decide) ?_
        refine sv_iald dX4_raiseValues_68 ha.1 ha.2 (by omega) ?_
        refine sv_imul dX4_raiseValues_69 ?_
        refine sv_min (List.mem_of_getElem? (i := 241) (by decide +kernel)) sv_minw (Nat.le_of_ble_eq_true rfl) (by decide) (by decide) (by first | omega | exact hin _ _ | decide | (simp [sv_u, sv_row]; omega) | (simp [sv_u, sv_row]; exact hin _ _) | exact hin1 _ _ | (simp [sv_u, sv_row]; exact hin1 _ _)) (by first | omega | exact hin _ _ | decide | (simp [sv_u, sv_row]; omega) | (simp [sv_u, sv_row]; exact hin _ _) | exact hin1 _ _ | (simp [sv_u, sv_row]; exact hin1 _ _)) dX4_raiseValues_70 ?_
        refine sv_iast dX4_raiseValues_73 ha.1 ha.2 (by omega) (by have e9 : sv_u (sv_u (sv_row f a V) a 1 (V 4)) a 4 (V 1) a 9 = V 9 := (by simp [sv_u, sv_row]); omega) ?_
        refine sv_aload_n (i := 0) dX4_raiseValues_74 rfl rfl ?_
        refine sv_bipush dX4_raiseValues_75 (by decide) ?_
        refine sv_bipush dX4_raiseValues_77 (by decide) ?_
        refine sv_iast dX4_raiseValues_79 ha.1 ha.2 (by omega) (by first | omega | exact hin _ _ | decide | (simp [sv_u, sv_row]; omega) | (simp [sv_u, sv_row]; exact hin _ _) | exact hin1 _ _ | (simp [sv_u, sv_row]; exact hin1 _ _)) ?_
        refine sv_return dX4_raiseValues_80 rfl ?_
        refine ⟨rfl, rfl, rfl, rfl, ?_⟩
        unfold sp_rz
        rw [← hV]
        first
        | (rw [if_neg (by omega)]; done)
        | (rw [if_pos (by omega)]; funext x y; grind [sv_u, sv_row, sp_r2])
  refine sv_iload_n (i := 1) dX4_raiseValues_0 rfl rfl ?_
  refine sv_iconst dX4_raiseValues_1 ?_
  refine sv_icmp_gt (tgt := 35) dX4_raiseValues_2 (by decide) (by first | omega | exact hin _ _ | decide | (simp [sv_u, sv_row]; omega) | (simp [sv_u, sv_row]; exact hin _ _) | exact hin1 _ _ | (simp [sv_u, sv_row]; exact hin1 _ _)) (by first | omega | exact hin _ _ | decide | (simp [sv_u, sv_row]; omega) | (simp [sv_u, sv_row]; exact hin _ _) | exact hin1 _ _ | (simp [sv_u, sv_row]; exact hin1 _ _)) (fun h_2 => ?_) (fun h_2 => ?_)
  · first
    | (refine sv_cast (g35 _ rfl) rfl rfl rfl rfl rfl ?_; rw [if_neg (by omega)]; exact sv_row_id)
    | (refine sv_cast (g35 _ rfl) rfl rfl rfl rfl rfl ?_; rw [if_pos (by omega)]; funext x y; grind [sv_u, sv_row, sp_r1])
  · refine sv_iload_n (i := 2) dX4_raiseValues_5 rfl rfl ?_
    refine sv_iconst dX4_raiseValues_6 ?_
    refine sv_icmp_lt (tgt := 35) dX4_raiseValues_7 (by decide) (by first | omega | exact hin _ _ | decide | (simp [sv_u, sv_row]; omega) | (simp [sv_u, sv_row]; exact hin _ _) | exact hin1 _ _ | (simp [sv_u, sv_row]; exact hin1 _ _)) (by first | omega | exact hin _ _ | decide | (simp [sv_u, sv_row]; omega) | (simp [sv_u, sv_row]; exact hin _ _) | exact hin1 _ _ | (simp [sv_u, sv_row]; exact hin1 _ _)) (fun h_7 => ?_) (fun h_7 => ?_)
    · first
      | (refine sv_cast (g35 _ rfl) rfl rfl rfl rfl rfl ?_; rw [if_neg (by omega)]; exact sv_row_id)
      | (refine sv_cast (g35 _ rfl) rfl rfl rfl rfl rfl ?_; rw [if_pos (by omega)]; funext x y; grind [sv_u, sv_row, sp_r1])
    · have a0 := hv (by omega) 0 (by omega) (by omega)
      have a1 := hv (by omega) 1 (by omega) (by omega)
      have a2 := hv (by omega) 2 (by omega) (by omega)
      refine sv_aload_n (i := 0) dX4_raiseValues_10 rfl rfl ?_
      refine sv_bipush dX4_raiseValues_11 (by decide) ?_
      refine sv_aload_n (i := 0) dX4_raiseValues_13 rfl rfl ?_
      refine sv_iconst dX4_raiseValues_14 ?_
      refine sv_iald dX4_raiseValues_15 ha.1 ha.2 (by omega) ?_
      refine sv_aload_n (i := 0) dX4_raiseValues_16 rfl rfl ?_
      refine sv_iconst dX4_raiseValues_17 ?_
      refine sv_iald dX4_raiseValues_18 ha.1 ha.2 (by omega) ?_
      refine sv_iadd dX4_raiseValues_19 ?_
      refine sv_aload_n (i := 0) dX4_raiseValues_20 rfl rfl ?_
      refine sv_iconst dX4_raiseValues_21 ?_
      refine sv_iald dX4_raiseValues_22 ha.1 ha.2 (by omega) ?_
      refine sv_iadd dX4_raiseValues_23 ?_
      refine sv_iconst dX4_raiseValues_24 ?_
      refine sv_idiv dX4_raiseValues_25 (by omega) (by decide) ?_
      refine sv_iast dX4_raiseValues_26 ha.1 ha.2 (by omega) (by first | omega | exact hin _ _ | decide | (simp [sv_u, sv_row]; omega) | (simp [sv_u, sv_row]; exact hin _ _) | exact hin1 _ _ | (simp [sv_u, sv_row]; exact hin1 _ _)) ?_
      refine sv_aload_n (i := 0) dX4_raiseValues_27 rfl rfl ?_
      refine sv_bipush dX4_raiseValues_28 (by decide) ?_
      refine sv_aload_n (i := 0) dX4_raiseValues_30 rfl rfl ?_
      refine sv_bipush dX4_raiseValues_31 (by decide) ?_
      refine sv_iald dX4_raiseValues_33 ha.1 ha.2 (by omega) ?_
      refine sv_iast dX4_raiseValues_34 ha.1 ha.2 (by omega) (by first | omega | exact hin _ _ | decide | (simp [sv_u, sv_row]; omega) | (simp [sv_u, sv_row]; exact hin _ _) | exact hin1 _ _ | (simp [sv_u, sv_row]; exact hin1 _ _)) ?_
      first
      | (refine sv_cast (g35 _ rfl) rfl rfl rfl rfl rfl ?_; rw [if_neg (by omega)]; exact sv_row_id)
      | (refine sv_cast (g35 _ rfl) rfl rfl rfl rfl rfl ?_; rw [if_pos (by omega)]; funext x y; grind [sv_u, sv_row, sp_r1])
/-- a Kept's entries written anew -/
def sv_w0 (f f' : sv_F) (k : Nat) (b n : Int) : Prop := (∀ x, x ≠ k → x ≠ k + 1 → x ≠ k + 2 → f' x = f x) ∧ f' k 0 = f k 0 ∧ f' k 1 = f k 1 ∧ f' k 2 = f k 2 ∧ f' k 3 = b ∧ f' k 4 = n
set_option maxRecDepth 100000 in
set_option maxHeartbeats 4000000 in
theorem c_X0_copyKept {X : sv_X} {S : sv_S} {f : sv_F} {r : sv_R} {g : sv_G} {k j : Nat} (hk : sv_K0 S r k) (hj : sv_K0 S r j) (hd : k + 2 < j ∨ j + 2 < k) : sv_C X 1 MX0_copyKept 0 0 [sv_r k, sv_r j] S f r g (sv_qv (fun f' => (∀ x, x ≠ k → x ≠ k + 1 → x ≠ k + 2 → f' x = f x) ∧ (∀ c, 0 ≤ c → c < 5 → f' k c = f j c) ∧ ∀ i, 0 ≤ i → i < 12 → f' (k + 1) i = f (j + 1) i ∧ f' (k + 2) i = f (j + 2) i) S r g) := by
  refine sv_met (by decide) (by simp [lg_sl, sv_cv, va_rf, Value.category]) ?_
  refine sv_fr fun hin => ?_
  refine sv_aload_n (i := 0) dX0_copyKept_0 rfl rfl ?_
  refine sv_aload_n (i := 1) dX0_copyKept_1 rfl rfl ?_
  refine sv_getI (kz := 0) flX0_9 dX0_copyKept_2 rfl rfl hj.lt hj.k ?_
  refine sv_putI (kz := 0) flX0_9 dX0_copyKept_5 (Or.inl rfl) rfl rfl hk.lt hk.k (hin _ _) ?_
  refine sv_aload_n (i := 0) dX0_copyKept_8 rfl rfl ?_
  refine sv_aload_n (i := 1) dX0_copyKept_9 rfl rfl ?_
  refine sv_getI (kz := 1) flX0_15 dX0_copyKept_10 rfl rfl hj.lt hj.k ?_
  refine sv_putI (kz := 1) flX0_15 dX0_copyKept_13 (Or.inl rfl) rfl rfl hk.lt hk.k (by simp [sv_u, show j ≠ k by omega]; exact hin _ _) ?_
  refine sv_aload_n (i := 0) dX0_copyKept_16 rfl rfl ?_
  refine sv_aload_n (i := 1) dX0_copyKept_17 rfl rfl ?_
  refine sv_getI (kz := 2) flX0_18 dX0_copyKept_18 rfl rfl hj.lt hj.k ?_
  refine sv_putI (kz := 2) flX0_18 dX0_copyKept_21 (Or.inl rfl) rfl rfl hk.lt hk.k (by simp [sv_u, show j ≠ k by omega]; exact hin _ _) ?_
  refine sv_aload_n (i := 0) dX0_copyKept_24 rfl rfl ?_
  refine sv_aload_n (i := 1) dX0_copyKept_25 rfl rfl ?_
  refine sv_getI (kz := 3) flX0_21 dX0_copyKept_26 rfl rfl hj.lt hj.k ?_
  refine sv_putI (kz := 3) flX0_21 dX0_copyKept_29 (Or.inl rfl) rfl rfl hk.lt hk.k (by simp [sv_u, show j ≠ k by omega]; exact hin _ _) ?_
  refine sv_aload_n (i := 0) dX0_copyKept_32 rfl rfl ?_
  refine sv_aload_n (i := 1) dX0_copyKept_33 rfl rfl ?_
  refine sv_getI (kz := 4) flX0_24 dX0_copyKept_34 rfl rfl hj.lt hj.k ?_
  refine sv_putI (kz := 4) flX0_24 dX0_copyKept_37 (Or.inl rfl) rfl rfl hk.lt hk.k (by simp [sv_u, show j ≠ k by omega]; exact hin _ _) ?_
  refine sv_aload_n (i := 1) dX0_copyKept_40 rfl rfl ?_
  refine sv_getR (kz := 5) flX0_27 dX0_copyKept_41 rfl rfl hj.lt hj.k hj.r1 ?_
  refine sv_iconst dX0_copyKept_44 ?_
  refine sv_aload_n (i := 0) dX0_copyKept_45 rfl rfl ?_
  refine sv_getR (kz := 5) flX0_27 dX0_copyKept_46 rfl rfl hk.lt hk.k hk.r1 ?_
  refine sv_iconst dX0_copyKept_49 ?_
  refine sv_bipush dX0_copyKept_50 (by decide) ?_
  refine sv_copy (List.mem_of_getElem? (i := 263) (by decide +kernel)) sv_copyw hj.l1 hj.s1 hk.l1 hk.s1 (by decide) (Nat.le_of_ble_eq_true rfl) (by decide) dX0_copyKept_52 ?_
  refine sv_aload_n (i := 1) dX0_copyKept_55 rfl rfl ?_
  refine sv_getR (kz := 6) flX0_31 dX0_copyKept_56 rfl rfl hj.lt hj.k hj.r2 ?_
  refine sv_iconst dX0_copyKept_59 ?_
  refine sv_aload_n (i := 0) dX0_copyKept_60 rfl rfl ?_
  refine sv_getR (kz := 6) flX0_31 dX0_copyKept_61 rfl rfl hk.lt hk.k hk.r2 ?_
  refine sv_iconst dX0_copyKept_64 ?_
  refine sv_bipush dX0_copyKept_65 (by decide) ?_
  refine sv_copy (List.mem_of_getElem? (i := 263) (by decide +kernel)) sv_copyw hj.l2 hj.s2 hk.l2 hk.s2 (by decide) (Nat.le_of_ble_eq_true rfl) (by decide) dX0_copyKept_67 ?_
  refine sv_return dX0_copyKept_70 rfl ?_
  refine ⟨rfl, rfl, rfl, rfl, fun x a b c => ?_, fun c c0 c1 => ?_, fun i i0 i1 => ⟨?_, ?_⟩⟩
  · funext y; simp [sv_u, sv_cp, a, b, c]
  · rcases (show c = 0 ∨ c = 1 ∨ c = 2 ∨ c = 3 ∨ c = 4 by omega) with h | h | h | h | h <;> subst h <;> simp [sv_u, sv_cp, show j ≠ k by omega, show j ≠ k + 1 by omega, show j ≠ k + 2 by omega]
  · simp [sv_u, sv_cp, show j + 1 ≠ k by omega, show j ≠ k by omega, i0, i1]
  · simp [sv_u, sv_cp, show j + 2 ≠ k by omega, show j + 2 ≠ k + 1 by omega, i0, i1]
set_option maxRecDepth 100000 in
set_option maxHeartbeats 4000000 in
theorem c_X0_makeWhole {X : sv_X} {S : sv_S} {f : sv_F} {r : sv_R} {g : sv_G} {k a : Nat} (hk : sv_K0 S r k) (ha : a < S.1 ∧ S.2 a = (6, 12)) (hd : a < k ∨ k + 2 < a) (hfm : 1 ≤ f k 1 ∧ f k 1 ≤ 3) : sv_C X 1 MX0_makeWhole 0 0 [sv_r k, sv_r a] S f r g (sv_qv (fun f' => sv_w0 f f' k (-1) (6 + 2 * f k 1) ∧ ∀ i, 0 ≤ i → i < 6 + 2 * f k 1 → f' (k + 1) i = i ∧ f' (k + 2) i = f a i) S r g) := by
  refine sv_met (by decide) (by simp [lg_sl, sv_cv, va_rf, Value.category]) ?_
  refine sv_fr fun hin => ?_
  have lp : ∀ (kk : Nat) (i : Int) (f1 : sv_F), 6 + 2 * f k 1 - i < (kk : Int) → (0 ≤ i ∧ i ≤ 6 + 2 * f k 1) → (sv_w0 f f1 k (-1) (6 + 2 * f k 1)) → (∀ t, 0 ≤ t → t < i → f1 (k + 1) t = t ∧ f1 (k + 2) t = f a t) → sv_T X (sv_rm 1 0 0) MX0_makeWhole (sv_Zm X 0 0 (sv_qv (fun f' => sv_w0 f f' k (-1) (6 + 2 * f k 1) ∧ ∀ i, 0 ≤ i → i < 6 + 2 * f k 1 → f' (k + 1) i = i ∧ f' (k + 2) i = f a i) S r g)) 0 0 18 [some (sv_r k), some (sv_r a), some (sv_i i)] [] S (f1) r g := by
    intro kk
    induction kk with
    | zero =>
      intro i f1 hkk h1 h2 h3
      exact absurd hkk (by omega)
    | succ kk ih =>
      intro i f1 hkk h1 h2 h3
      refine sv_fr fun hin1 => ?_
      refine sv_iload_n (i := 2) dX0_makeWhole_18 rfl rfl ?_
      refine sv_aload_n (i := 0) dX0_makeWhole_19 rfl rfl ?_
      refine sv_getI (kz := 4) flX0_24 dX0_makeWhole_20 rfl rfl hk.lt hk.k ?_
      rw [h2.2.2.2.2.2]
      refine sv_icmp_ge (tgt := 48) dX0_makeWhole_23 (by decide) (by first | omega | exact hin _ _ | decide | (simp [sv_u, sv_row]; omega) | (simp [sv_u, sv_row]; exact hin _ _) | exact hin1 _ _ | (simp [sv_u, sv_row]; exact hin1 _ _)) (by first | omega | exact hin _ _ | decide | (simp [sv_u, sv_row]; omega) | (simp [sv_u, sv_row]; exact hin _ _) | exact hin1 _ _ | (simp [sv_u, sv_row]; exact hin1 _ _)) (fun h_23 => ?_) (fun h_23 => ?_)
      · refine sv_return dX0_makeWhole_48 rfl ?_
        exact ⟨rfl, rfl, rfl, rfl, h2, fun t t0 t1 => h3 t t0 (by omega)⟩
      · have hfa : f1 a = f a := h2.1 a (by omega) (by omega) (by omega)
        refine sv_aload_n (i := 0) dX0_makeWhole_26 rfl rfl ?_
        refine sv_getR (kz := 5) flX0_27 dX0_makeWhole_27 rfl rfl hk.lt hk.k hk.r1 ?_
        refine sv_iload_n (i := 2) dX0_makeWhole_30 rfl rfl ?_
        refine sv_iload_n (i := 2) dX0_makeWhole_31 rfl rfl ?_
        refine sv_iast dX0_makeWhole_32 hk.l1 hk.s1 (by omega) (by first | omega | exact hin _ _ | decide | (simp [sv_u, sv_row]; omega) | (simp [sv_u, sv_row]; exact hin _ _) | exact hin1 _ _ | (simp [sv_u, sv_row]; exact hin1 _ _)) ?_
        refine sv_aload_n (i := 0) dX0_makeWhole_33 rfl rfl ?_
        refine sv_getR (kz := 6) flX0_31 dX0_makeWhole_34 rfl rfl hk.lt hk.k hk.r2 ?_
        refine sv_iload_n (i := 2) dX0_makeWhole_37 rfl rfl ?_
        refine sv_aload_n (i := 1) dX0_makeWhole_38 rfl rfl ?_
        refine sv_iload_n (i := 2) dX0_makeWhole_39 rfl rfl ?_
        refine sv_iald dX0_makeWhole_40 ha.1 ha.2 (by omega) ?_
        refine sv_iast dX0_makeWhole_41 hk.l2 hk.s2 (by omega) (by rw [sv_u_ne (by omega)]; exact hin1 _ _) ?_
        refine sv_iinc dX0_makeWhole_42 rfl (by decide) rfl ?_
        refine sv_goto (tgt := 18) dX0_makeWhole_45 (by decide) ?_
        refine ih (i + 1) _ (by omega) (by omega) ?_ ?_
        · obtain ⟨z1, z2, z3, z4, z5, z6⟩ := h2
          refine ⟨fun x a1 a2 a3 => ?_, ?_, ?_, ?_, ?_, ?_⟩
          · rw [sv_u_ne a3, sv_u_ne a2, z1 x a1 a2 a3]
          all_goals (simp [sv_u]; assumption)
        · intro t t0 t1
          have e := h3 t t0
          by_cases ht : t = i
          · subst ht; simp [sv_u, show a ≠ k + 1 by omega]; exact congrFun hfa t
          · have e := e (by omega)
            simp [sv_u, ht]; exact e
  refine sv_aload_n (i := 0) dX0_makeWhole_0 rfl rfl ?_
  refine sv_iconst dX0_makeWhole_1 ?_
  refine sv_putI (kz := 3) flX0_21 dX0_makeWhole_2 (Or.inl rfl) rfl rfl hk.lt hk.k (by first | omega | exact hin _ _ | decide | (simp [sv_u, sv_row]; omega) | (simp [sv_u, sv_row]; exact hin _ _) | exact hin1 _ _ | (simp [sv_u, sv_row]; exact hin1 _ _)) ?_
  refine sv_aload_n (i := 0) dX0_makeWhole_5 rfl rfl ?_
  refine sv_aload_n (i := 0) dX0_makeWhole_6 rfl rfl ?_
  refine sv_getI (kz := 1) flX0_15 dX0_makeWhole_7 rfl rfl hk.lt hk.k ?_
  refine sv_sp0 (As := [_]) clX0_40 dX0_makeWhole_10 rfl (Nat.le_of_ble_eq_true rfl) (by decide) (by decide) (c_X4_sizeOf _) ?_
  rw [show sv_u f k 3 (-1) k 1 = f k 1 by simp [sv_u]]
  refine sv_putI (kz := 4) flX0_24 dX0_makeWhole_13 (Or.inl rfl) rfl rfl hk.lt hk.k (by first | omega | exact hin _ _ | decide | (simp [sv_u, sv_row]; omega) | (simp [sv_u, sv_row]; exact hin _ _) | exact hin1 _ _ | (simp [sv_u, sv_row]; exact hin1 _ _)) ?_
  refine sv_iconst dX0_makeWhole_16 ?_
  refine sv_istore_n (i := 2) dX0_makeWhole_17 rfl (by decide) rfl ?_
  refine lp (6 + 2 * f k 1 + 1).toNat 0 _ (by omega) (by omega) ⟨fun x a1 a2 a3 => by rw [sv_u_ne a1, sv_u_ne a1], ?_, ?_, ?_, ?_, ?_⟩ (fun t t0 t1 => by omega)
  all_goals simp [sv_u]
theorem sv_dnm (v w : Int → Int) : ∀ {s t : Nat}, s ≤ t → sp_dn v w s ≤ sp_dn v w t := by
  intro s t h
  induction t with
  | zero => rw [show s = 0 by omega]; exact Int.le_refl _
  | succ t ih =>
    by_cases e : s = t + 1
    · rw [e]; exact Int.le_refl _
    · have := ih (by omega)
      show _ ≤ sp_dn v w t + (if v t = w t then 0 else 1)
      split <;> omega
theorem sp_dn_lt {v w : Int → Int} {s t : Nat} (hd : v s ≠ w s) (h : s < t) : sp_dn v w s < sp_dn v w t := by
  have a := sv_dnm v w (show s + 1 ≤ t by omega)
  have b : sp_dn v w (s + 1) = sp_dn v w s + 1 := by
    show sp_dn v w s + (if v s = w s then 0 else 1) = _
    rw [if_neg hd]
  omega
set_option maxRecDepth 100000 in
set_option maxHeartbeats 4000000 in
theorem c_X0_makeDifference {X : sv_X} {S : sv_S} {f : sv_F} {r : sv_R} {g : sv_G} {k a b : Nat} {nb : Int} (hk : sv_K0 S r k) (ha : a < S.1 ∧ S.2 a = (6, 12)) (hb : b < S.1 ∧ S.2 b = (6, 12)) (hda : a < k ∨ k + 2 < a) (hdb : b < k ∨ k + 2 < b) (hnb : sv_in nb) (hfm : 1 ≤ f k 1 ∧ f k 1 ≤ 3) : sv_C X 1 MX0_makeDifference 0 0 [sv_r k, sv_i nb, sv_r a, sv_r b] S f r g (sv_qv (fun f' => sv_w0 f f' k nb (sp_dn (f a) (f b) (6 + 2 * f k 1).toNat) ∧ ∀ t : Nat, (t : Int) < 6 + 2 * f k 1 → f a t ≠ f b t → f' (k + 1) (sp_dn (f a) (f b) t) = t ∧ f' (k + 2) (sp_dn (f a) (f b) t) = f b t) S r g) := by
  refine sv_met (by decide) (by simp [lg_sl, sv_cv, va_rf, Value.category]) ?_
  refine sv_fr fun hin => ?_
  have lp : ∀ (kk : Nat) (i : Nat) (f1 : sv_F), 6 + 2 * f k 1 - (i : Int) < (kk : Int) → ((i : Int) ≤ 6 + 2 * f k 1) → (sv_w0 f f1 k nb (sp_dn (f a) (f b) i)) → (∀ t : Nat, t < i → f a t ≠ f b t → f1 (k + 1) (sp_dn (f a) (f b) t) = t ∧ f1 (k + 2) (sp_dn (f a) (f b) t) = f b t) → sv_T X (sv_rm 1 0 0) MX0_makeDifference (sv_Zm X 0 0 (sv_qv (fun f' => sv_w0 f f' k nb (sp_dn (f a) (f b) (6 + 2 * f k 1).toNat) ∧ ∀ t : Nat, (t : Int) < 6 + 2 * f k 1 → f a t ≠ f b t → f' (k + 1) (sp_dn (f a) (f b) t) = t ∧ f' (k + 2) (sp_dn (f a) (f b) t) = f b t) S r g)) 0 0 13 [some (sv_r k), some (sv_i nb), some (sv_r a), some (sv_r b), some (sv_i (i : Nat))] [] S (f1) r g := by
    intro kk
    induction kk with
    | zero =>
      intro i f1 hkk h1 h2 h3
      exact absurd hkk (by omega)
    | succ kk ih =>
      intro i f1 hkk h1 h2 h3
      refine sv_fr fun hin1 => ?_
      have hz6 : f1 k 4 = sp_dn (f a) (f b) i := h2.2.2.2.2.2
      have hz1 : f1 k 1 = f k 1 := h2.2.2.1
      have hfa : f1 a = f a := h2.1 a (by omega) (by omega) (by omega)
      have hfb : f1 b = f b := h2.1 b (by omega) (by omega) (by omega)
      have hdi := sp_dn_in (f a) (f b) i
      refine sv_iload dX0_makeDifference_13 rfl ?_
      refine sv_aload_n (i := 0) dX0_makeDifference_15 rfl rfl ?_
      refine sv_getI (kz := 1) flX0_15 dX0_makeDifference_16 rfl rfl hk.lt hk.k ?_
      rw [hz1]
      refine sv_sp0 (As := [_]) clX0_40 dX0_makeDifference_19 rfl (Nat.le_of_ble_eq_true rfl) (by decide) (by decide) (c_X4_sizeOf _) ?_
      refine sv_icmp_ge (tgt := 76) dX0_makeDifference_22 (by decide) (by first | omega | exact hin _ _ | decide | (simp [sv_u, sv_row]; omega) | (simp [sv_u, sv_row]; exact hin _ _) | exact hin1 _ _ | (simp [sv_u, sv_row]; exact hin1 _ _)) (by first | omega | exact hin _ _ | decide | (simp [sv_u, sv_row]; omega) | (simp [sv_u, sv_row]; exact hin _ _) | exact hin1 _ _ | (simp [sv_u, sv_row]; exact hin1 _ _)) (fun h_22 => ?_) (fun h_22 => ?_)
      · refine sv_return dX0_makeDifference_76 rfl ?_
        exact ⟨rfl, rfl, rfl, rfl, by rw [show (6 + 2 * f k 1).toNat = i by omega]; exact h2, fun t t1 t2 => h3 t (by omega) t2⟩
      · refine sv_aload_n (i := 3) dX0_makeDifference_25 rfl rfl ?_
        refine sv_iload dX0_makeDifference_26 rfl ?_
        refine sv_iald dX0_makeDifference_28 hb.1 hb.2 (by omega) ?_
        refine sv_aload_n (i := 2) dX0_makeDifference_29 rfl rfl ?_
        refine sv_iload dX0_makeDifference_30 rfl ?_
        refine sv_iald dX0_makeDifference_32 ha.1 ha.2 (by omega) ?_
        refine sv_icmp_eq (tgt := 70) dX0_makeDifference_33 (by decide) (hin1 _ _) (hin1 _ _) (fun h_33 => ?_) (fun h_33 => ?_)
        · refine sv_iinc dX0_makeDifference_70 rfl (by decide) rfl ?_
          refine sv_goto (tgt := 13) dX0_makeDifference_73 (by decide) ?_
          first
          | (refine ih (i + 1) f1 (by omega) (by omega) ?_ ?_
             · have e : sp_dn (f a) (f b) (i + 1) = sp_dn (f a) (f b) i := by
                 show sp_dn (f a) (f b) i + (if f a (i : Int) = f b (i : Int) then 0 else 1) = _
                 rw [if_pos (by rw [← hfa, ← hfb]; omega)]; omega
               rw [e]; exact h2
             · intro t t1 t2
               by_cases ht : t = i
               · subst ht; exfalso; rw [← hfa, ← hfb] at t2; omega
               · exact h3 t (by omega) t2)
          | (refine ih (i + 1) _ (by omega) (by omega) ?_ ?_
             · have e : sp_dn (f a) (f b) (i + 1) = sp_dn (f a) (f b) i + 1 := by
                 show sp_dn (f a) (f b) i + (if f a (i : Int) = f b (i : Int) then 0 else 1) = _
                 rw [if_neg (by rw [← hfa, ← hfb]; omega)]
               rw [e]
               obtain ⟨z1, z2, z3, z4, z5, z6⟩ := h2
               refine ⟨fun x a1 a2 a3 => ?_, ?_, ?_, ?_, ?_, ?_⟩
               · rw [sv_u_ne a1, sv_u_ne a3, sv_u_ne a2, z1 x a1 a2 a3]
               all_goals (simp [sv_u]; try assumption)
               try omega
             · intro t t1 t2
               by_cases ht : t = i
               · subst ht; simp [sv_u, hz6, show b ≠ k + 1 by omega]; exact congrFun hfb t
               · have e := h3 t (by omega) t2
                 have hlt : sp_dn (f a) (f b) t < sp_dn (f a) (f b) i := sp_dn_lt t2 (by omega)
                 have hne : sp_dn (f a) (f b) t ≠ sp_dn (f a) (f b) i := by omega
                 simp [sv_u, hz6, hne]; exact e)
        · refine sv_aload_n (i := 0) dX0_makeDifference_36 rfl rfl ?_
          refine sv_getR (kz := 5) flX0_27 dX0_makeDifference_37 rfl rfl hk.lt hk.k hk.r1 ?_
          refine sv_aload_n (i := 0) dX0_makeDifference_40 rfl rfl ?_
          refine sv_getI (kz := 4) flX0_24 dX0_makeDifference_41 rfl rfl hk.lt hk.k ?_
          rw [hz6]
          refine sv_iload dX0_makeDifference_44 rfl ?_
          refine sv_iast dX0_makeDifference_46 hk.l1 hk.s1 (by omega) (by first | omega | exact hin _ _ | decide | (simp [sv_u, sv_row]; omega) | (simp [sv_u, sv_row]; exact hin _ _) | exact hin1 _ _ | (simp [sv_u, sv_row]; exact hin1 _ _)) ?_
          refine sv_aload_n (i := 0) dX0_makeDifference_47 rfl rfl ?_
          refine sv_getR (kz := 6) flX0_31 dX0_makeDifference_48 rfl rfl hk.lt hk.k hk.r2 ?_
          refine sv_aload_n (i := 0) dX0_makeDifference_51 rfl rfl ?_
          refine sv_getI (kz := 4) flX0_24 dX0_makeDifference_52 rfl rfl hk.lt hk.k ?_
          rw [show sv_u f1 (k + 1) (sp_dn (f a) (f b) i) i k 4 = sp_dn (f a) (f b) i by rw [sv_u_ne (by omega)]; exact hz6]
          refine sv_aload_n (i := 3) dX0_makeDifference_55 rfl rfl ?_
          refine sv_iload dX0_makeDifference_56 rfl ?_
          refine sv_iald dX0_makeDifference_58 hb.1 hb.2 (by omega) ?_
          refine sv_iast dX0_makeDifference_59 hk.l2 hk.s2 (by omega) (by rw [sv_u_ne (by omega)]; exact hin1 _ _) ?_
          refine sv_aload_n (i := 0) dX0_makeDifference_60 rfl rfl ?_
          refine sv_dup dX0_makeDifference_61 rfl ?_
          refine sv_getI (kz := 4) flX0_24 dX0_makeDifference_62 rfl rfl hk.lt hk.k ?_
          refine sv_iconst dX0_makeDifference_65 ?_
          refine sv_iadd dX0_makeDifference_66 ?_
          refine sv_putI (kz := 4) flX0_24 dX0_makeDifference_67 (Or.inl rfl) rfl rfl hk.lt hk.k (by simp [sv_u]; omega) ?_
          refine sv_iinc dX0_makeDifference_70 rfl (by decide) rfl ?_
          refine sv_goto (tgt := 13) dX0_makeDifference_73 (by decide) ?_
          first
          | (refine ih (i + 1) f1 (by omega) (by omega) ?_ ?_
             · have e : sp_dn (f a) (f b) (i + 1) = sp_dn (f a) (f b) i := by
                 show sp_dn (f a) (f b) i + (if f a (i : Int) = f b (i : Int) then 0 else 1) = _
                 rw [if_pos (by rw [← hfa, ← hfb]; omega)]; omega
               rw [e]; exact h2
             · intro t t1 t2
               by_cases ht : t = i
               · subst ht; exfalso; rw [← hfa, ← hfb] at t2; omega
               · exact h3 t (by omega) t2)
          | (refine ih (i + 1) _ (by omega) (by omega) ?_ ?_
             · have e : sp_dn (f a) (f b) (i + 1) = sp_dn (f a) (f b) i + 1 := by
                 show sp_dn (f a) (f b) i + (if f a (i : Int) = f b (i : Int) then 0 else 1) = _
                 rw [if_neg (by rw [← hfa, ← hfb]; omega)]
               rw [e]
               obtain ⟨z1, z2, z3, z4, z5, z6⟩ := h2
               refine ⟨fun x a1 a2 a3 => ?_, ?_, ?_, ?_, ?_, ?_⟩
               · rw [sv_u_ne a1, sv_u_ne a3, sv_u_ne a2, z1 x a1 a2 a3]
               all_goals (simp [sv_u]; try assumption)
               try omega
             · intro t t1 t2
               by_cases ht : t = i
               · subst ht; simp [sv_u, hz6, show b ≠ k + 1 by omega]; exact congrFun hfb t
               · have e := h3 t (by omega) t2
                 have hlt : sp_dn (f a) (f b) t < sp_dn (f a) (f b) i := sp_dn_lt t2 (by omega)
                 have hne : sp_dn (f a) (f b) t ≠ sp_dn (f a) (f b) i := by omega
                 simp [sv_u, hz6, hne]; exact e)
  refine sv_aload_n (i := 0) dX0_makeDifference_0 rfl rfl ?_
  refine sv_iload_n (i := 1) dX0_makeDifference_1 rfl rfl ?_
  refine sv_putI (kz := 3) flX0_21 dX0_makeDifference_2 (Or.inl rfl) rfl rfl hk.lt hk.k (by first | omega | exact hin _ _ | decide | (simp [sv_u, sv_row]; omega) | (simp [sv_u, sv_row]; exact hin _ _) | exact hin1 _ _ | (simp [sv_u, sv_row]; exact hin1 _ _)) ?_
  refine sv_aload_n (i := 0) dX0_makeDifference_5 rfl rfl ?_
  refine sv_iconst dX0_makeDifference_6 ?_
  refine sv_putI (kz := 4) flX0_24 dX0_makeDifference_7 (Or.inl rfl) rfl rfl hk.lt hk.k (by first | omega | exact hin _ _ | decide | (simp [sv_u, sv_row]; omega) | (simp [sv_u, sv_row]; exact hin _ _) | exact hin1 _ _ | (simp [sv_u, sv_row]; exact hin1 _ _)) ?_
  refine sv_iconst dX0_makeDifference_10 ?_
  refine sv_istore dX0_makeDifference_11 (by decide) rfl ?_
  refine lp (6 + 2 * f k 1 + 1).toNat 0 _ (by omega) (by omega) ⟨fun x a1 a2 a3 => by rw [sv_u_ne a1, sv_u_ne a1], ?_, ?_, ?_, ?_, ?_⟩ (fun t t1 => by omega)
  all_goals simp [sv_u, sp_dn]
