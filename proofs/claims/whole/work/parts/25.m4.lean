set_option maxRecDepth 100000 in
set_option maxHeartbeats 4000000 in
theorem c_X5_keeps {X : sv_X} {S : sv_S} {f : sv_F} {r : sv_R} {g : sv_G} {o : Nat} (hsh : sv_M5 S r o) (hu : 0 ≤ f o 2 ∧ f o 2 ≤ 6) : sv_C X 0 MX5_keeps 0 0 [sv_r o] S f r g (sv_qv (fun f' => f' = sv_u (sv_row f (o + 2) (fun j => if 598 * (if f o 2 = 6 then 5 else f o 2) ≤ j ∧ j < 598 * (if f o 2 = 6 then 5 else f o 2) + 598 then f (o + 1) (j - 598 * (if f o 2 = 6 then 5 else f o 2)) else if f o 2 = 6 ∧ 0 ≤ j ∧ j < 2990 then f (o + 2) (j + 598) else f (o + 2) j)) o 2 ((if f o 2 = 6 then 5 else f o 2) + 1)) S r g) := by
  refine sv_met (by decide) (by simp [lg_sl, sv_cv, va_rf, Value.category]) ?_
  refine sv_fr fun hin => ?_
  have l2 : ∀ (k : Nat) (i : Int) (f1 : sv_F), 598 - i < (k : Int) → (0 ≤ i ∧ i ≤ 598) → (0 ≤ f1 o 2 ∧ f1 o 2 ≤ 5) → (sv_u (sv_row f1 (o + 2) (fun j => if 598 * f1 o 2 ≤ j ∧ j < 598 * f1 o 2 + 598 then f1 (o + 1) (j - 598 * f1 o 2) else f1 (o + 2) j)) o 2 (f1 o 2 + 1) = sv_u (sv_row f (o + 2) (fun j => if 598 * (if f o 2 = 6 then 5 else f o 2) ≤ j ∧ j < 598 * (if f o 2 = 6 then 5 else f o 2) + 598 then f (o + 1) (j - 598 * (if f o 2 = 6 then 5 else f o 2)) else if f o 2 = 6 ∧ 0 ≤ j ∧ j < 2990 then f (o + 2) (j + 598) else f (o + 2) j)) o 2 ((if f o 2 = 6 then 5 else f o 2) + 1)) → sv_T X (sv_rm 0 0 0) MX5_keeps (sv_Zm X 0 0 (sv_qv (fun f' => f' = sv_u (sv_row f (o + 2) (fun j => if 598 * (if f o 2 = 6 then 5 else f o 2) ≤ j ∧ j < 598 * (if f o 2 = 6 then 5 else f o 2) + 598 then f (o + 1) (j - 598 * (if f o 2 = 6 then 5 else f o 2)) else if f o 2 = 6 ∧ 0 ≤ j ∧ j < 2990 then f (o + 2) (j + 598) else f (o + 2) j)) o 2 ((if f o 2 = 6 then 5 else f o 2) + 1)) S r g)) 0 0 52 [some (sv_r o), some (sv_i i)] [] S (sv_row f1 (o + 2) (fun j => if 598 * f1 o 2 ≤ j ∧ j < 598 * f1 o 2 + i then f1 (o + 1) (j - 598 * f1 o 2) else f1 (o + 2) j)) r g := by
    intro k
    induction k with
    | zero =>
      intro i f1 hk h1 h2 hG
      exact absurd hk (by omega)
    | succ k ih =>
      intro i f1 hk h1 h2 hG
      refine sv_fr fun hin1 => ?_
      refine sv_iload_n (i := 1) dX5_keeps_52 rfl rfl ?_
      refine sv_sipush dX5_keeps_53 (by decide) ?_
      refine sv_icmp_ge (tgt := 86) dX5_keeps_56 (by decide) (by first | omega | exact hin _ _ | decide | (simp [sv_u, sv_row]; omega) | (simp [sv_u, sv_row]; exact hin _ _) | exact hin1 _ _ | (simp [sv_u, sv_row]; exact hin1 _ _)) (by first | omega | exact hin _ _ | decide | (simp [sv_u, sv_row]; omega) | (simp [sv_u, sv_row]; exact hin _ _) | exact hin1 _ _ | (simp [sv_u, sv_row]; exact hin1 _ _)) (fun h_56 => ?_) (fun h_56 => ?_)
      · refine sv_aload_n (i := 0) dX5_keeps_86 rfl rfl ?_
        refine sv_dup dX5_keeps_87 rfl ?_
        refine sv_getI (kz := 2) flX5_42 dX5_keeps_88 rfl rfl hsh.lt hsh.k ?_
        refine sv_iconst dX5_keeps_91 ?_
        refine sv_iadd dX5_keeps_92 ?_
        refine sv_putI (kz := 2) flX5_42 dX5_keeps_93 (Or.inl rfl) rfl rfl hsh.lt hsh.k (by first | omega | exact hin _ _ | decide | (simp [sv_u, sv_row]; omega) | (simp [sv_u, sv_row]; exact hin _ _) | exact hin1 _ _ | (simp [sv_u, sv_row]; exact hin1 _ _)) ?_
        refine sv_return dX5_keeps_96 rfl ?_
        exact ⟨rfl, rfl, rfl, rfl, by rw [← hG, show i = 598 by omega]; funext x y; grind [sv_u, sv_row]⟩
      · refine sv_aload_n (i := 0) dX5_keeps_59 rfl rfl ?_
        refine sv_getR (kz := 1) flX5_13 dX5_keeps_60 rfl rfl hsh.lt hsh.k hsh.r2 ?_
        refine sv_sipush dX5_keeps_63 (by decide) ?_
        refine sv_aload_n (i := 0) dX5_keeps_66 rfl rfl ?_
        refine sv_getI (kz := 2) flX5_42 dX5_keeps_67 rfl rfl hsh.lt hsh.k ?_
        refine sv_imul dX5_keeps_70 ?_
        refine sv_iload_n (i := 1) dX5_keeps_71 rfl rfl ?_
        refine sv_iadd dX5_keeps_72 ?_
        refine sv_aload_n (i := 0) dX5_keeps_73 rfl rfl ?_
        refine sv_getR (kz := 0) flX5_7 dX5_keeps_74 rfl rfl hsh.lt hsh.k hsh.r1 ?_
        refine sv_iload_n (i := 1) dX5_keeps_77 rfl rfl ?_
        refine sv_iald dX5_keeps_78 hsh.l1 hsh.s1 (by simp [sv_row]; omega) ?_
        refine sv_iast dX5_keeps_79 hsh.l2 hsh.s2 (by simp [sv_row]; omega) (by first | omega | exact hin _ _ | decide | (simp [sv_u, sv_row]; omega) | (simp [sv_u, sv_row]; exact hin _ _) | exact hin1 _ _ | (simp [sv_u, sv_row]; exact hin1 _ _)) ?_
        refine sv_iinc dX5_keeps_80 rfl (by decide) rfl ?_
        refine sv_goto (tgt := 52) dX5_keeps_83 (by decide) ?_
        exact sv_cast (ih (i + 1) f1 (by omega) (by omega) h2 hG) rfl rfl rfl rfl rfl (by funext x y; grind [sv_u, sv_row])
  have l1 : ∀ (k : Nat) (i : Int), 2990 - i < (k : Int) → (0 ≤ i ∧ i ≤ 2990) → (f o 2 = 6) → sv_T X (sv_rm 0 0 0) MX5_keeps (sv_Zm X 0 0 (sv_qv (fun f' => f' = sv_u (sv_row f (o + 2) (fun j => if 598 * (if f o 2 = 6 then 5 else f o 2) ≤ j ∧ j < 598 * (if f o 2 = 6 then 5 else f o 2) + 598 then f (o + 1) (j - 598 * (if f o 2 = 6 then 5 else f o 2)) else if f o 2 = 6 ∧ 0 ≤ j ∧ j < 2990 then f (o + 2) (j + 598) else f (o + 2) j)) o 2 ((if f o 2 = 6 then 5 else f o 2) + 1)) S r g)) 0 0 11 [some (sv_r o), some (sv_i i)] [] S (sv_row f (o + 2) (fun j => if 0 ≤ j ∧ j < i then f (o + 2) (j + 598) else f (o + 2) j)) r g := by
    intro k
    induction k with
    | zero =>
      intro i hk h1 hu6
      exact absurd hk (by omega)
    | succ k ih =>
      intro i hk h1 hu6
      refine sv_fr fun hin1 => ?_
      refine sv_iload_n (i := 1) dX5_keeps_11 rfl rfl ?_
      refine sv_sipush dX5_keeps_12 (by decide) ?_
      refine sv_icmp_ge (tgt := 40) dX5_keeps_15 (by decide) (by first | omega | exact hin _ _ | decide | (simp [sv_u, sv_row]; omega) | (simp [sv_u, sv_row]; exact hin _ _) | exact hin1 _ _ | (simp [sv_u, sv_row]; exact hin1 _ _)) (by first | omega | exact hin _ _ | decide | (simp [sv_u, sv_row]; omega) | (simp [sv_u, sv_row]; exact hin _ _) | exact hin1 _ _ | (simp [sv_u, sv_row]; exact hin1 _ _)) (fun h_15 => ?_) (fun h_15 => ?_)
      · refine sv_aload_n (i := 0) dX5_keeps_40 rfl rfl ?_
        refine sv_dup dX5_keeps_41 rfl ?_
        refine sv_getI (kz := 2) flX5_42 dX5_keeps_42 rfl rfl hsh.lt hsh.k ?_
        refine sv_iconst dX5_keeps_45 ?_
        refine sv_isub dX5_keeps_46 ?_
        refine sv_putI (kz := 2) flX5_42 dX5_keeps_47 (Or.inl rfl) rfl rfl hsh.lt hsh.k (by first | omega | exact hin _ _ | decide | (simp [sv_u, sv_row]; omega) | (simp [sv_u, sv_row]; exact hin _ _) | exact hin1 _ _ | (simp [sv_u, sv_row]; exact hin1 _ _)) ?_
        refine sv_iconst dX5_keeps_50 ?_
        refine sv_istore_n (i := 1) dX5_keeps_51 rfl (by decide) rfl ?_
        refine sv_cast (l2 599 0 (sv_u (sv_row f (o + 2) (fun j => if 0 ≤ j ∧ j < 2990 then f (o + 2) (j + 598) else f (o + 2) j)) o 2 5) (by omega) (by omega) (by simp [sv_u]) ?_) rfl rfl rfl rfl rfl ?_
        · funext x y
          simp [sv_u, sv_row, hu6]
          grind
        · rw [show i = 2990 by omega]
          funext x y
          grind [sv_u, sv_row]
      · refine sv_aload_n (i := 0) dX5_keeps_18 rfl rfl ?_
        refine sv_getR (kz := 1) flX5_13 dX5_keeps_19 rfl rfl hsh.lt hsh.k hsh.r2 ?_
        refine sv_iload_n (i := 1) dX5_keeps_22 rfl rfl ?_
        refine sv_aload_n (i := 0) dX5_keeps_23 rfl rfl ?_
        refine sv_getR (kz := 1) flX5_13 dX5_keeps_24 rfl rfl hsh.lt hsh.k hsh.r2 ?_
        refine sv_iload_n (i := 1) dX5_keeps_27 rfl rfl ?_
        refine sv_sipush dX5_keeps_28 (by decide) ?_
        refine sv_iadd dX5_keeps_31 ?_
        refine sv_iald dX5_keeps_32 hsh.l2 hsh.s2 (by omega) ?_
        refine sv_iast dX5_keeps_33 hsh.l2 hsh.s2 (by omega) (by first | omega | exact hin _ _ | decide | (simp [sv_u, sv_row]; omega) | (simp [sv_u, sv_row]; exact hin _ _) | exact hin1 _ _ | (simp [sv_u, sv_row]; exact hin1 _ _)) ?_
        refine sv_iinc dX5_keeps_34 rfl (by decide) rfl ?_
        refine sv_goto (tgt := 11) dX5_keeps_37 (by decide) ?_
        exact sv_cast (ih (i + 1) (by omega) (by omega) hu6) rfl rfl rfl rfl rfl (by funext x y; grind [sv_u, sv_row])
  refine sv_aload_n (i := 0) dX5_keeps_0 rfl rfl ?_
  refine sv_getI (kz := 2) flX5_42 dX5_keeps_1 rfl rfl hsh.lt hsh.k ?_
  refine sv_bipush dX5_keeps_4 (by decide) ?_
  refine sv_icmp_ne (tgt := 50) dX5_keeps_6 (by decide) (by first | omega | exact hin _ _ | decide | (simp [sv_u, sv_row]; omega) | (simp [sv_u, sv_row]; exact hin _ _) | exact hin1 _ _ | (simp [sv_u, sv_row]; exact hin1 _ _)) (by first | omega | exact hin _ _ | decide | (simp [sv_u, sv_row]; omega) | (simp [sv_u, sv_row]; exact hin _ _) | exact hin1 _ _ | (simp [sv_u, sv_row]; exact hin1 _ _)) (fun h_6 => ?_) (fun h_6 => ?_)
  · refine sv_iconst dX5_keeps_50 ?_
    refine sv_istore_n (i := 1) dX5_keeps_51 rfl (by decide) rfl ?_
    refine sv_cast (l2 599 0 f (by omega) (by omega) (by omega) ?_) rfl rfl rfl rfl rfl ?_
    · have hu6 : ¬ f o 2 = 6 := by omega
      simp [hu6]
    · funext x y
      grind [sv_u, sv_row]
  · refine sv_iconst dX5_keeps_9 ?_
    refine sv_istore_n (i := 1) dX5_keeps_10 rfl (by decide) rfl ?_
    exact sv_cast (l1 2991 0 (by omega) (by omega) (by omega)) rfl rfl rfl rfl rfl (by funext x y; grind [sv_u, sv_row])
set_option maxRecDepth 100000 in
set_option maxHeartbeats 4000000 in
theorem c_X5_undo {X : sv_X} {S : sv_S} {f : sv_F} {r : sv_R} {g : sv_G} {o : Nat} (hsh : sv_M5 S r o) (hu : 0 ≤ f o 2 ∧ f o 2 ≤ 6) : sv_C X 0 MX5_undo 0 0 [sv_r o] S f r g (sv_qi (fun a f' => (f o 2 = 0 ∧ a = -3 ∧ f' = f) ∨ (1 ≤ f o 2 ∧ a = f o 2 - 1 ∧ f' = sv_u (sv_row f (o + 1) (fun j => if 0 ≤ j ∧ j < 598 then f (o + 2) (598 * (f o 2 - 1) + j) else f (o + 1) j)) o 2 (f o 2 - 1))) S r g) := by
  refine sv_met (by decide) (by simp [lg_sl, sv_cv, va_rf, Value.category]) ?_
  refine sv_fr fun hin => ?_
  have lp : ∀ (k : Nat) (i : Int), 598 - i < (k : Int) → (0 ≤ i ∧ i ≤ 598) → (1 ≤ f o 2) → sv_T X (sv_rm 0 0 0) MX5_undo (sv_Zm X 0 0 (sv_qi (fun a f' => (f o 2 = 0 ∧ a = -3 ∧ f' = f) ∨ (1 ≤ f o 2 ∧ a = f o 2 - 1 ∧ f' = sv_u (sv_row f (o + 1) (fun j => if 0 ≤ j ∧ j < 598 then f (o + 2) (598 * (f o 2 - 1) + j) else f (o + 1) j)) o 2 (f o 2 - 1))) S r g)) 0 0 22 [some (sv_r o), some (sv_i i)] [] S (sv_u (sv_row f (o + 1) (fun j => if 0 ≤ j ∧ j < i then f (o + 2) (598 * (f o 2 - 1) + j) else f (o + 1) j)) o 2 (f o 2 - 1)) r g := by
    intro k
    induction k with
    | zero =>
      intro i hk h1 h2
      exact absurd hk (by omega)
    | succ k ih =>
      intro i hk h1 h2
      refine sv_fr fun hin1 => ?_
      refine sv_iload_n (i := 1) dX5_undo_22 rfl rfl ?_
      refine sv_sipush dX5_undo_23 (by decide) ?_
      refine sv_icmp_ge (tgt := 56) dX5_undo_26 (by decide) (by first | omega | exact hin _ _ | decide | (simp [sv_u, sv_row]; omega) | (simp [sv_u, sv_row]; exact hin _ _) | exact hin1 _ _ | (simp [sv_u, sv_row]; exact hin1 _ _)) (by first | omega | exact hin _ _ | decide | (simp [sv_u, sv_row]; omega) | (simp [sv_u, sv_row]; exact hin _ _) | exact hin1 _ _ | (simp [sv_u, sv_row]; exact hin1 _ _)) (fun h_26 => ?_) (fun h_26 => ?_)
      · refine sv_aload_n (i := 0) dX5_undo_56 rfl rfl ?_
        refine sv_getI (kz := 2) flX5_42 dX5_undo_57 rfl rfl hsh.lt hsh.k ?_
        refine sv_ireturn dX5_undo_60 rfl ?_
        exact ⟨_, rfl, rfl, rfl, rfl, Or.inr ⟨by omega, by simp [sv_u], by rw [show i = 598 by omega]⟩⟩
      · refine sv_aload_n (i := 0) dX5_undo_29 rfl rfl ?_
        refine sv_getR (kz := 0) flX5_7 dX5_undo_30 rfl rfl hsh.lt hsh.k hsh.r1 ?_
        refine sv_iload_n (i := 1) dX5_undo_33 rfl rfl ?_
        refine sv_aload_n (i := 0) dX5_undo_34 rfl rfl ?_
        refine sv_getR (kz := 1) flX5_13 dX5_undo_35 rfl rfl hsh.lt hsh.k hsh.r2 ?_
        refine sv_sipush dX5_undo_38 (by decide) ?_
        refine sv_aload_n (i := 0) dX5_undo_41 rfl rfl ?_
        refine sv_getI (kz := 2) flX5_42 dX5_undo_42 rfl rfl hsh.lt hsh.k ?_
        refine sv_imul dX5_undo_45 ?_
        refine sv_iload_n (i := 1) dX5_undo_46 rfl rfl ?_
        refine sv_iadd dX5_undo_47 ?_
        refine sv_iald dX5_undo_48 hsh.l2 hsh.s2 (by simp [sv_u]; omega) ?_
        refine sv_iast dX5_undo_49 hsh.l1 hsh.s1 (by omega) (by first | omega | exact hin _ _ | decide | (simp [sv_u, sv_row]; omega) | (simp [sv_u, sv_row]; exact hin _ _) | exact hin1 _ _ | (simp [sv_u, sv_row]; exact hin1 _ _)) ?_
        refine sv_iinc dX5_undo_50 rfl (by decide) rfl ?_
        refine sv_goto (tgt := 22) dX5_undo_53 (by decide) ?_
        exact sv_cast (ih (i + 1) (by omega) (by omega) h2) rfl rfl rfl rfl rfl (by
          funext x y
          by_cases e0 : x = o + 1
          · subst e0
            simp [sv_u, sv_row]
            try grind
          by_cases e1 : x = o
          · subst e1
            simp [sv_u, sv_row]
            try grind
          simp [sv_u, sv_row, *])
  refine sv_aload_n (i := 0) dX5_undo_0 rfl rfl ?_
  refine sv_getI (kz := 2) flX5_42 dX5_undo_1 rfl rfl hsh.lt hsh.k ?_
  refine sv_if_ne (tgt := 10) dX5_undo_4 (by decide) (by first | omega | exact hin _ _ | decide | (simp [sv_u, sv_row]; omega) | (simp [sv_u, sv_row]; exact hin _ _) | exact hin1 _ _ | (simp [sv_u, sv_row]; exact hin1 _ _)) (fun h_4 => ?_) (fun h_4 => ?_)
  · refine sv_aload_n (i := 0) dX5_undo_10 rfl rfl ?_
    refine sv_dup dX5_undo_11 rfl ?_
    refine sv_getI (kz := 2) flX5_42 dX5_undo_12 rfl rfl hsh.lt hsh.k ?_
    refine sv_iconst dX5_undo_15 ?_
    refine sv_isub dX5_undo_16 ?_
    refine sv_putI (kz := 2) flX5_42 dX5_undo_17 (Or.inl rfl) rfl rfl hsh.lt hsh.k (by first | omega | exact hin _ _ | decide | (simp [sv_u, sv_row]; omega) | (simp [sv_u, sv_row]; exact hin _ _) | exact hin1 _ _ | (simp [sv_u, sv_row]; exact hin1 _ _)) ?_
    refine sv_iconst dX5_undo_20 ?_
    refine sv_istore_n (i := 1) dX5_undo_21 rfl (by decide) rfl ?_
    exact sv_cast (lp 599 0 (by omega) (by omega) (by omega)) rfl rfl rfl rfl rfl (by
      funext x y
      by_cases e0 : x = o + 1
      · subst e0
        simp [sv_u, sv_row]
        try grind
      by_cases e1 : x = o
      · subst e1
        simp [sv_u, sv_row]
        try grind
      simp [sv_u, sv_row, *])
  · refine sv_bipush dX5_undo_7 (by decide) ?_
    refine sv_ireturn dX5_undo_9 rfl ?_
    exact ⟨_, rfl, rfl, rfl, rfl, Or.inl ⟨by omega, rfl, rfl⟩⟩
set_option maxRecDepth 100000 in
set_option maxHeartbeats 4000000 in
theorem c_X5_setsAside {X : sv_X} {S : sv_S} {f : sv_F} {r : sv_R} {g : sv_G} {o : Nat} (hsh : sv_M5 S r o) : sv_C X 0 MX5_setsAside 0 0 [sv_r o] S f r g (sv_qv (fun f' => f' = sv_row f (o + 6) (fun j => if 0 ≤ j ∧ j < 12 then f (o + 3) j else f (o + 6) j)) S r g) := by
  refine sv_met (by decide) (by simp [lg_sl, sv_cv, va_rf, Value.category]) ?_
  refine sv_fr fun hin => ?_
  have lp : ∀ (k : Nat) (i : Int), 12 - i < (k : Int) → (0 ≤ i ∧ i ≤ 12) → sv_T X (sv_rm 0 0 0) MX5_setsAside (sv_Zm X 0 0 (sv_qv (fun f' => f' = sv_row f (o + 6) (fun j => if 0 ≤ j ∧ j < 12 then f (o + 3) j else f (o + 6) j)) S r g)) 0 0 2 [some (sv_r o), some (sv_i i)] [] S (sv_row f (o + 6) (fun j => if 0 ≤ j ∧ j < i then f (o + 3) j else f (o + 6) j)) r g := by
    intro k
    induction k with
    | zero =>
      intro i hk h1
      exact absurd hk (by omega)
    | succ k ih =>
      intro i hk h1
      refine sv_fr fun hin1 => ?_
      refine sv_iload_n (i := 1) dX5_setsAside_2 rfl rfl ?_
      refine sv_bipush dX5_setsAside_3 (by decide) ?_
      refine sv_icmp_ge (tgt := 26) dX5_setsAside_5 (by decide) (by first | omega | exact hin _ _ | decide | (simp [sv_u, sv_row]; omega) | (simp [sv_u, sv_row]; exact hin _ _) | exact hin1 _ _ | (simp [sv_u, sv_row]; exact hin1 _ _)) (by first | omega | exact hin _ _ | decide | (simp [sv_u, sv_row]; omega) | (simp [sv_u, sv_row]; exact hin _ _) | exact hin1 _ _ | (simp [sv_u, sv_row]; exact hin1 _ _)) (fun h_5 => ?_) (fun h_5 => ?_)
      · refine sv_return dX5_setsAside_26 rfl ?_
        exact ⟨rfl, rfl, rfl, rfl, by rw [show i = 12 by omega]⟩
      · refine sv_aload_n (i := 0) dX5_setsAside_8 rfl rfl ?_
        refine sv_getR (kz := 8) flX5_25 dX5_setsAside_9 rfl rfl hsh.lt hsh.k hsh.r6 ?_
        refine sv_iload_n (i := 1) dX5_setsAside_12 rfl rfl ?_
        refine sv_aload_n (i := 0) dX5_setsAside_13 rfl rfl ?_
        refine sv_getR (kz := 3) flX5_16 dX5_setsAside_14 rfl rfl hsh.lt hsh.k hsh.r3 ?_
        refine sv_iload_n (i := 1) dX5_setsAside_17 rfl rfl ?_
        refine sv_iald dX5_setsAside_18 hsh.l3 hsh.s3 (by omega) ?_
        refine sv_iast dX5_setsAside_19 hsh.l6 hsh.s6 (by omega) (by first | omega | exact hin _ _ | decide | (simp [sv_u, sv_row]; omega) | (simp [sv_u, sv_row]; exact hin _ _) | exact hin1 _ _ | (simp [sv_u, sv_row]; exact hin1 _ _)) ?_
        refine sv_iinc dX5_setsAside_20 rfl (by decide) rfl ?_
        refine sv_goto (tgt := 2) dX5_setsAside_23 (by decide) ?_
        exact sv_cast (ih (i + 1) (by omega) (by omega)) rfl rfl rfl rfl rfl (by funext x y; grind [sv_u, sv_row])
  refine sv_iconst dX5_setsAside_0 ?_
  refine sv_istore_n (i := 1) dX5_setsAside_1 rfl (by decide) rfl ?_
  exact sv_cast (lp 13 0 (by omega) (by omega)) rfl rfl rfl rfl rfl (by funext x y; grind [sv_u, sv_row])
set_option maxRecDepth 100000 in
set_option maxHeartbeats 4000000 in
theorem c_X5_differences {X : sv_X} {S : sv_S} {f : sv_F} {r : sv_R} {g : sv_G} {o : Nat} (hsh : sv_M5 S r o) (n : Int) (hn : 0 ≤ n ∧ n ≤ 12) : sv_C X 0 MX5_differences 0 0 [sv_r o, sv_i n] S f r g (sv_qp (some (sv_i (sp_dn (f (o + 3)) (f (o + 6)) n.toNat))) S f r g) := by
  refine sv_met (by decide) (by simp [lg_sl, sv_cv, va_rf, Value.category]) ?_
  refine sv_fr fun hin => ?_
  have lp : ∀ (k : Nat) (d : Int) (i : Int), n - i < (k : Int) → (0 ≤ i ∧ i ≤ n) → (d = sp_dn (f (o + 3)) (f (o + 6)) i.toNat) → sv_T X (sv_rm 0 0 0) MX5_differences (sv_Zm X 0 0 (sv_qp (some (sv_i (sp_dn (f (o + 3)) (f (o + 6)) n.toNat))) S f r g)) 0 0 4 [some (sv_r o), some (sv_i n), some (sv_i d), some (sv_i i)] [] S (f) r g := by
    intro k
    induction k with
    | zero =>
      intro d i hk h1 hd
      exact absurd hk (by omega)
    | succ k ih =>
      intro d i hk h1 hd
      have hd1 := sp_dn_in (f (o + 3)) (f (o + 6)) i.toNat
      refine sv_iload_n (i := 3) dX5_differences_4 rfl rfl ?_
      refine sv_iload_n (i := 1) dX5_differences_5 rfl rfl ?_
      refine sv_icmp_ge (tgt := 38) dX5_differences_6 (by decide) (by first | omega | exact hin _ _ | decide | (simp [sv_u, sv_row]; omega) | (simp [sv_u, sv_row]; exact hin _ _) | exact hin1 _ _ | (simp [sv_u, sv_row]; exact hin1 _ _)) (by first | omega | exact hin _ _ | decide | (simp [sv_u, sv_row]; omega) | (simp [sv_u, sv_row]; exact hin _ _) | exact hin1 _ _ | (simp [sv_u, sv_row]; exact hin1 _ _)) (fun h_6 => ?_) (fun h_6 => ?_)
      · refine sv_iload_n (i := 2) dX5_differences_38 rfl rfl ?_
        refine sv_ireturn dX5_differences_39 rfl ?_
        exact ⟨by rw [hd, show i = n by omega], rfl, rfl, rfl, rfl⟩
      · refine sv_iload_n (i := 2) dX5_differences_9 rfl rfl ?_
        refine sv_aload_n (i := 0) dX5_differences_10 rfl rfl ?_
        refine sv_getR (kz := 3) flX5_16 dX5_differences_11 rfl rfl hsh.lt hsh.k hsh.r3 ?_
        refine sv_iload_n (i := 3) dX5_differences_14 rfl rfl ?_
        refine sv_iald dX5_differences_15 hsh.l3 hsh.s3 (by omega) ?_
        refine sv_aload_n (i := 0) dX5_differences_16 rfl rfl ?_
        refine sv_getR (kz := 8) flX5_25 dX5_differences_17 rfl rfl hsh.lt hsh.k hsh.r6 ?_
        refine sv_iload_n (i := 3) dX5_differences_20 rfl rfl ?_
        refine sv_iald dX5_differences_21 hsh.l6 hsh.s6 (by omega) ?_
        refine sv_icmp_ne (tgt := 29) dX5_differences_22 (by decide) (by first | omega | exact hin _ _ | decide | (simp [sv_u, sv_row]; omega) | (simp [sv_u, sv_row]; exact hin _ _) | exact hin1 _ _ | (simp [sv_u, sv_row]; exact hin1 _ _)) (by first | omega | exact hin _ _ | decide | (simp [sv_u, sv_row]; omega) | (simp [sv_u, sv_row]; exact hin _ _) | exact hin1 _ _ | (simp [sv_u, sv_row]; exact hin1 _ _)) (fun h_22 => ?_) (fun h_22 => ?_)
        · refine sv_iconst dX5_differences_29 ?_
          refine sv_iadd dX5_differences_30 ?_
          refine sv_istore_n (i := 2) dX5_differences_31 rfl (by decide) rfl ?_
          refine sv_iinc dX5_differences_32 rfl (by decide) rfl ?_
          refine sv_goto (tgt := 4) dX5_differences_35 (by decide) ?_
          exact ih _ _ (by omega) (by omega) (by rw [sp_dn_s (by omega), hd]; simp [h_22])
        · refine sv_iconst dX5_differences_25 ?_
          refine sv_goto (tgt := 30) dX5_differences_26 (by decide) ?_
          refine sv_iadd dX5_differences_30 ?_
          refine sv_istore_n (i := 2) dX5_differences_31 rfl (by decide) rfl ?_
          refine sv_iinc dX5_differences_32 rfl (by decide) rfl ?_
          refine sv_goto (tgt := 4) dX5_differences_35 (by decide) ?_
          exact ih _ _ (by omega) (by omega) (by rw [sp_dn_s (by omega), hd]; simp [h_22])
  refine sv_iconst dX5_differences_0 ?_
  refine sv_istore_n (i := 2) dX5_differences_1 rfl (by decide) rfl ?_
  refine sv_iconst dX5_differences_2 ?_
  refine sv_istore_n (i := 3) dX5_differences_3 rfl (by decide) rfl ?_
  exact lp (n + 1).toNat 0 0 (by omega) (by omega) rfl
set_option maxRecDepth 100000 in
set_option maxHeartbeats 4000000 in
theorem c_X5_writesWhole {X : sv_X} {S : sv_S} {f : sv_F} {r : sv_R} {g : sv_G} {o : Nat} (hsh : sv_M5 S r o) (s : Int) (hs : 0 ≤ s ∧ s < 20) (hfm : 1 ≤ f (o + 1) (29 * s + 1) ∧ f (o + 1) (29 * s + 1) ≤ 3) : sv_C X 1 MX5_writesWhole 0 0 [sv_r o, sv_i s] S f r g (sv_qv (fun f' => f' = sv_row f (o + 1) (sp_ww (f (o + 1)) s (6 + 2 * f (o + 1) (29 * s + 1)) 12 (f (o + 6)))) S r g) := by
  refine sv_met (by decide) (by simp [lg_sl, sv_cv, va_rf, Value.category]) ?_
  refine sv_fr fun hin => ?_
  have lp : ∀ (k : Nat) (i : Int), 12 - i < (k : Int) → (0 ≤ i ∧ i ≤ 12) → sv_T X (sv_rm 1 0 0) MX5_writesWhole (sv_Zm X 0 0 (sv_qv (fun f' => f' = sv_row f (o + 1) (sp_ww (f (o + 1)) s (6 + 2 * f (o + 1) (29 * s + 1)) 12 (f (o + 6)))) S r g)) 0 0 26 [some (sv_r o), some (sv_i s), some (sv_i (6 + 2 * f (o + 1) (29 * s + 1))), some (sv_i i)] [] S (sv_row f (o + 1) (sp_ww (f (o + 1)) s (6 + 2 * f (o + 1) (29 * s + 1)) i (f (o + 6)))) r g := by
    intro k
    induction k with
    | zero =>
      intro i hk h1
      exact absurd hk (by omega)
    | succ k ih =>
      intro i hk h1
      refine sv_fr fun hin1 => ?_
      refine sv_iload_n (i := 3) dX5_writesWhole_26 rfl rfl ?_
      refine sv_bipush dX5_writesWhole_27 (by decide) ?_
      refine sv_icmp_ge (tgt := 80) dX5_writesWhole_29 (by decide) (by first | omega | exact hin _ _ | decide | (simp [sv_u, sv_row]; omega) | (simp [sv_u, sv_row]; exact hin _ _) | exact hin1 _ _ | (simp [sv_u, sv_row]; exact hin1 _ _)) (by first | omega | exact hin _ _ | decide | (simp [sv_u, sv_row]; omega) | (simp [sv_u, sv_row]; exact hin _ _) | exact hin1 _ _ | (simp [sv_u, sv_row]; exact hin1 _ _)) (fun h_29 => ?_) (fun h_29 => ?_)
      · refine sv_return dX5_writesWhole_80 rfl ?_
        exact ⟨rfl, rfl, rfl, rfl, by rw [show i = 12 by omega]⟩
      · refine sv_aload_n (i := 0) dX5_writesWhole_32 rfl rfl ?_
        refine sv_iload_n (i := 1) dX5_writesWhole_33 rfl rfl ?_
        refine sv_iconst dX5_writesWhole_34 ?_
        refine sv_iload_n (i := 3) dX5_writesWhole_35 rfl rfl ?_
        refine sv_iadd dX5_writesWhole_36 ?_
        refine sv_iload_n (i := 3) dX5_writesWhole_37 rfl rfl ?_
        refine sv_iload_n (i := 2) dX5_writesWhole_38 rfl rfl ?_
        refine sv_icmp_ge (tgt := 46) dX5_writesWhole_39 (by decide) (by first | omega | exact hin _ _ | decide | (simp [sv_u, sv_row]; omega) | (simp [sv_u, sv_row]; exact hin _ _) | exact hin1 _ _ | (simp [sv_u, sv_row]; exact hin1 _ _)) (by first | omega | exact hin _ _ | decide | (simp [sv_u, sv_row]; omega) | (simp [sv_u, sv_row]; exact hin _ _) | exact hin1 _ _ | (simp [sv_u, sv_row]; exact hin1 _ _)) (fun h_39 => ?_) (fun h_39 => ?_)
        · refine sv_iconst dX5_writesWhole_46 ?_
          refine sv_vv0 (As := [_, _, _]) clX5_77 dX5_writesWhole_47 ⟨_, rfl, rfl⟩ (by decide) rfl (Nat.le_of_ble_eq_true rfl) (by decide) (by decide) hsh.lt hsh.k (c_X5_put hsh _ _ _ (by omega) (by first | omega | (simp [sv_row, sv_u]; first | omega | exact hin _ _))) (fun f2 hf2 => ?_)
          subst hf2
          refine sv_aload_n (i := 0) dX5_writesWhole_50 rfl rfl ?_
          refine sv_iload_n (i := 1) dX5_writesWhole_51 rfl rfl ?_
          refine sv_bipush dX5_writesWhole_52 (by decide) ?_
          refine sv_iload_n (i := 3) dX5_writesWhole_54 rfl rfl ?_
          refine sv_iadd dX5_writesWhole_55 ?_
          refine sv_iload_n (i := 3) dX5_writesWhole_56 rfl rfl ?_
          refine sv_iload_n (i := 2) dX5_writesWhole_57 rfl rfl ?_
          refine sv_icmp_ge (tgt := 70) dX5_writesWhole_58 (by decide) (by first | omega | exact hin _ _ | decide | (simp [sv_u, sv_row]; omega) | (simp [sv_u, sv_row]; exact hin _ _) | exact hin1 _ _ | (simp [sv_u, sv_row]; exact hin1 _ _)) (by first | omega | exact hin _ _ | decide | (simp [sv_u, sv_row]; omega) | (simp [sv_u, sv_row]; exact hin _ _) | exact hin1 _ _ | (simp [sv_u, sv_row]; exact hin1 _ _)) (fun h_58 => ?_) (fun h_58 => ?_)
          · refine sv_iconst dX5_writesWhole_70 ?_
            refine sv_vv0 (As := [_, _, _]) clX5_77 dX5_writesWhole_71 ⟨_, rfl, rfl⟩ (by decide) rfl (Nat.le_of_ble_eq_true rfl) (by decide) (by decide) hsh.lt hsh.k (c_X5_put hsh _ _ _ (by omega) (by first | omega | (simp [sv_row, sv_u]; first | omega | exact hin _ _))) (fun f2 hf2 => ?_)
            subst hf2
            refine sv_iinc dX5_writesWhole_74 rfl (by decide) rfl ?_
            refine sv_goto (tgt := 26) dX5_writesWhole_77 (by decide) ?_
            exact sv_cast (ih (i + 1) (by omega) (by omega)) rfl rfl rfl rfl rfl (by funext x y; grind [sv_u, sv_row, sp_ww])
          · refine sv_aload_n (i := 0) dX5_writesWhole_61 rfl rfl ?_
            refine sv_getR (kz := 8) flX5_25 dX5_writesWhole_62 rfl rfl hsh.lt hsh.k hsh.r6 ?_
            refine sv_iload_n (i := 3) dX5_writesWhole_65 rfl rfl ?_
            refine sv_iald dX5_writesWhole_66 hsh.l6 hsh.s6 (by omega) ?_
            refine sv_goto (tgt := 71) dX5_writesWhole_67 (by decide) ?_
            refine sv_vv0 (As := [_, _, _]) clX5_77 dX5_writesWhole_71 ⟨_, rfl, rfl⟩ (by decide) rfl (Nat.le_of_ble_eq_true rfl) (by decide) (by decide) hsh.lt hsh.k (c_X5_put hsh _ _ _ (by omega) (by first | omega | (simp [sv_row, sv_u]; first | omega | exact hin _ _))) (fun f2 hf2 => ?_)
            subst hf2
            refine sv_iinc dX5_writesWhole_74 rfl (by decide) rfl ?_
            refine sv_goto (tgt := 26) dX5_writesWhole_77 (by decide) ?_
            exact sv_cast (ih (i + 1) (by omega) (by omega)) rfl rfl rfl rfl rfl (by funext x y; grind [sv_u, sv_row, sp_ww])
        · refine sv_iload_n (i := 3) dX5_writesWhole_42 rfl rfl ?_
          refine sv_goto (tgt := 47) dX5_writesWhole_43 (by decide) ?_
          refine sv_vv0 (As := [_, _, _]) clX5_77 dX5_writesWhole_47 ⟨_, rfl, rfl⟩ (by decide) rfl (Nat.le_of_ble_eq_true rfl) (by decide) (by decide) hsh.lt hsh.k (c_X5_put hsh _ _ _ (by omega) (by first | omega | (simp [sv_row, sv_u]; first | omega | exact hin _ _))) (fun f2 hf2 => ?_)
          subst hf2
          refine sv_aload_n (i := 0) dX5_writesWhole_50 rfl rfl ?_
          refine sv_iload_n (i := 1) dX5_writesWhole_51 rfl rfl ?_
          refine sv_bipush dX5_writesWhole_52 (by decide) ?_
          refine sv_iload_n (i := 3) dX5_writesWhole_54 rfl rfl ?_
          refine sv_iadd dX5_writesWhole_55 ?_
          refine sv_iload_n (i := 3) dX5_writesWhole_56 rfl rfl ?_
          refine sv_iload_n (i := 2) dX5_writesWhole_57 rfl rfl ?_
          refine sv_icmp_ge (tgt := 70) dX5_writesWhole_58 (by decide) (by first | omega | exact hin _ _ | decide | (simp [sv_u, sv_row]; omega) | (simp [sv_u, sv_row]; exact hin _ _) | exact hin1 _ _ | (simp [sv_u, sv_row]; exact hin1 _ _)) (by first | omega | exact hin _ _ | decide | (simp [sv_u, sv_row]; omega) | (simp [sv_u, sv_row]; exact hin _ _) | exact hin1 _ _ | (simp [sv_u, sv_row]; exact hin1 _ _)) (fun h_58 => ?_) (fun h_58 => ?_)
          · refine sv_iconst dX5_writesWhole_70 ?_
            refine sv_vv0 (As := [_, _, _]) clX5_77 dX5_writesWhole_71 ⟨_, rfl, rfl⟩ (by decide) rfl (Nat.le_of_ble_eq_true rfl) (by decide) (by decide) hsh.lt hsh.k (c_X5_put hsh _ _ _ (by omega) (by first | omega | (simp [sv_row, sv_u]; first | omega | exact hin _ _))) (fun f2 hf2 => ?_)
            subst hf2
            refine sv_iinc dX5_writesWhole_74 rfl (by decide) rfl ?_
            refine sv_goto (tgt := 26) dX5_writesWhole_77 (by decide) ?_
            exact sv_cast (ih (i + 1) (by omega) (by omega)) rfl rfl rfl rfl rfl (by funext x y; grind [sv_u, sv_row, sp_ww])
          · refine sv_aload_n (i := 0) dX5_writesWhole_61 rfl rfl ?_
            refine sv_getR (kz := 8) flX5_25 dX5_writesWhole_62 rfl rfl hsh.lt hsh.k hsh.r6 ?_
            refine sv_iload_n (i := 3) dX5_writesWhole_65 rfl rfl ?_
            refine sv_iald dX5_writesWhole_66 hsh.l6 hsh.s6 (by omega) ?_
            refine sv_goto (tgt := 71) dX5_writesWhole_67 (by decide) ?_
            refine sv_vv0 (As := [_, _, _]) clX5_77 dX5_writesWhole_71 ⟨_, rfl, rfl⟩ (by decide) rfl (Nat.le_of_ble_eq_true rfl) (by decide) (by decide) hsh.lt hsh.k (c_X5_put hsh _ _ _ (by omega) (by first | omega | (simp [sv_row, sv_u]; first | omega | exact hin _ _))) (fun f2 hf2 => ?_)
            subst hf2
            refine sv_iinc dX5_writesWhole_74 rfl (by decide) rfl ?_
            refine sv_goto (tgt := 26) dX5_writesWhole_77 (by decide) ?_
            exact sv_cast (ih (i + 1) (by omega) (by omega)) rfl rfl rfl rfl rfl (by funext x y; grind [sv_u, sv_row, sp_ww])
  refine sv_aload_n (i := 0) dX5_writesWhole_0 rfl rfl ?_
  refine sv_iload_n (i := 1) dX5_writesWhole_1 rfl rfl ?_
  refine sv_iconst dX5_writesWhole_2 ?_
  refine sv_vp0 (As := [_, _]) clX5_38 dX5_writesWhole_3 ⟨_, rfl, rfl⟩ (by decide) rfl (Nat.le_of_ble_eq_true rfl) (by decide) (by decide) hsh.lt hsh.k (c_X5_of hsh (by first | exact hm | rfl | (simp only [sv_u_ne, sv_row_ne, sv_row_eq, ne_eq, Nat.add_left_cancel_iff, Nat.reduceEqDiff, not_false_eq_true, Nat.add_eq_left, reduceCtorEq, OfNat.ofNat_ne_zero, OfNat.one_ne_ofNat, OfNat.ofNat_ne_one, one_ne_zero, Nat.succ_ne_self]; first | exact hm | rfl) | (simp [sv_u_ne, sv_row_ne, sv_row_eq]; done) | (simp [sv_u_ne, sv_row_ne, sv_row_eq]; exact hm)) _ _ (by omega)) ?_
  refine sv_sp0 (As := [_]) clX5_52 dX5_writesWhole_6 rfl (Nat.le_of_ble_eq_true rfl) (by decide) (by decide) (c_X5_valuesOf _) ?_
  refine sv_istore_n (i := 2) dX5_writesWhole_9 rfl (by decide) rfl ?_
  refine sv_aload_n (i := 0) dX5_writesWhole_10 rfl rfl ?_
  refine sv_iload_n (i := 1) dX5_writesWhole_11 rfl rfl ?_
  refine sv_iconst dX5_writesWhole_12 ?_
  refine sv_iconst dX5_writesWhole_13 ?_
  refine sv_vv0 (As := [_, _, _]) clX5_77 dX5_writesWhole_14 ⟨_, rfl, rfl⟩ (by decide) rfl (Nat.le_of_ble_eq_true rfl) (by decide) (by decide) hsh.lt hsh.k (c_X5_put hsh _ _ _ (by omega) (by first | omega | (simp [sv_row, sv_u]; first | omega | exact hin _ _))) (fun f2 hf2 => ?_)
  subst hf2
  refine sv_aload_n (i := 0) dX5_writesWhole_17 rfl rfl ?_
  refine sv_iload_n (i := 1) dX5_writesWhole_18 rfl rfl ?_
  refine sv_iconst dX5_writesWhole_19 ?_
  refine sv_iload_n (i := 2) dX5_writesWhole_20 rfl rfl ?_
  refine sv_vv0 (As := [_, _, _]) clX5_77 dX5_writesWhole_21 ⟨_, rfl, rfl⟩ (by decide) rfl (Nat.le_of_ble_eq_true rfl) (by decide) (by decide) hsh.lt hsh.k (c_X5_put hsh _ _ _ (by omega) (by first | omega | (simp [sv_row, sv_u]; first | omega | exact hin _ _))) (fun f2 hf2 => ?_)
  subst hf2
  refine sv_iconst dX5_writesWhole_24 ?_
  refine sv_istore_n (i := 3) dX5_writesWhole_25 rfl (by decide) rfl ?_
  exact sv_cast (lp 13 0 (by omega) (by omega)) rfl rfl rfl rfl rfl (by funext x y; grind [sv_u, sv_row, sp_ww])
set_option maxRecDepth 100000 in
set_option maxHeartbeats 4000000 in
theorem c_X5_writesDifference {X : sv_X} {S : sv_S} {f : sv_F} {r : sv_R} {g : sv_G} {o : Nat} (hsh : sv_M5 S r o) (s bs : Int) (hs : 0 ≤ s ∧ s < 20) (hb : sv_in bs) (hfm : 1 ≤ f (o + 1) (29 * s + 1) ∧ f (o + 1) (29 * s + 1) ≤ 3) : sv_C X 1 MX5_writesDifference 0 0 [sv_r o, sv_i s, sv_i bs] S f r g (sv_qv (fun f' => f' = sv_row f (o + 1) (sp_up (sp_up (sp_wd (f (o + 1)) s (f (o + 3)) (f (o + 6)) (6 + 2 * f (o + 1) (29 * s + 1)).toNat) (29 * s + 3) bs) (29 * s + 4) (sp_dn (f (o + 3)) (f (o + 6)) (6 + 2 * f (o + 1) (29 * s + 1)).toNat))) S r g) := by
  refine sv_met (by decide) (by simp [lg_sl, sv_cv, va_rf, Value.category]) ?_
  refine sv_fr fun hin => ?_
  have lp : ∀ (k : Nat) (i : Int) (d : Int), 12 - i < (k : Int) → (0 ≤ i ∧ i ≤ 6 + 2 * f (o + 1) (29 * s + 1)) → (d = sp_dn (f (o + 3)) (f (o + 6)) i.toNat) → sv_T X (sv_rm 1 0 0) MX5_writesDifference (sv_Zm X 0 0 (sv_qv (fun f' => f' = sv_row f (o + 1) (sp_up (sp_up (sp_wd (f (o + 1)) s (f (o + 3)) (f (o + 6)) (6 + 2 * f (o + 1) (29 * s + 1)).toNat) (29 * s + 3) bs) (29 * s + 4) (sp_dn (f (o + 3)) (f (o + 6)) (6 + 2 * f (o + 1) (29 * s + 1)).toNat))) S r g)) 0 0 5 [some (sv_r o), some (sv_i s), some (sv_i bs), some (sv_i d), some (sv_i i)] [] S (sv_row f (o + 1) (sp_wd (f (o + 1)) s (f (o + 3)) (f (o + 6)) i.toNat)) r g := by
    intro k
    induction k with
    | zero =>
      intro i d hk h1 hd
      exact absurd hk (by omega)
    | succ k ih =>
      intro i d hk h1 hd
      refine sv_fr fun hin1 => ?_
      have e1 : sp_wd (f (o + 1)) s (f (o + 3)) (f (o + 6)) i.toNat (29 * s + 1) = f (o + 1) (29 * s + 1) := sp_wd_out _ (by omega) (by omega)
      have hd1 := sp_dn_in (f (o + 3)) (f (o + 6)) i.toNat
      refine sv_iload dX5_writesDifference_5 rfl ?_
      refine sv_aload_n (i := 0) dX5_writesDifference_7 rfl rfl ?_
      refine sv_iload_n (i := 1) dX5_writesDifference_8 rfl rfl ?_
      refine sv_iconst dX5_writesDifference_9 ?_
      refine sv_vp0 (As := [_, _]) clX5_38 dX5_writesDifference_10 ⟨_, rfl, rfl⟩ (by decide) rfl (Nat.le_of_ble_eq_true rfl) (by decide) (by decide) hsh.lt hsh.k (c_X5_of hsh (by first | exact hm | rfl | (simp only [sv_u_ne, sv_row_ne, sv_row_eq, ne_eq, Nat.add_left_cancel_iff, Nat.reduceEqDiff, not_false_eq_true, Nat.add_eq_left, reduceCtorEq, OfNat.ofNat_ne_zero, OfNat.one_ne_ofNat, OfNat.ofNat_ne_one, one_ne_zero, Nat.succ_ne_self]; first | exact hm | rfl) | (simp [sv_u_ne, sv_row_ne, sv_row_eq]; done) | (simp [sv_u_ne, sv_row_ne, sv_row_eq]; exact hm)) _ _ (by omega)) ?_
      rw [show (sv_row f (o + 1) (sp_wd (f (o + 1)) s (f (o + 3)) (f (o + 6)) i.toNat)) (o + 1) (29 * s + 1) = f (o + 1) (29 * s + 1) by rw [sv_row_eq]; exact e1]
      refine sv_sp0 (As := [_]) clX5_52 dX5_writesDifference_13 rfl (Nat.le_of_ble_eq_true rfl) (by decide) (by decide) (c_X5_valuesOf _) ?_
      refine sv_icmp_ge (tgt := 71) dX5_writesDifference_16 (by decide) (by first | omega | exact hin _ _ | decide | (simp [sv_u, sv_row]; omega) | (simp [sv_u, sv_row]; exact hin _ _) | exact hin1 _ _ | (simp [sv_u, sv_row]; exact hin1 _ _)) (by first | omega | exact hin _ _ | decide | (simp [sv_u, sv_row]; omega) | (simp [sv_u, sv_row]; exact hin _ _) | exact hin1 _ _ | (simp [sv_u, sv_row]; exact hin1 _ _)) (fun h_16 => ?_) (fun h_16 => ?_)
      · 
        refine sv_aload_n (i := 0) dX5_writesDifference_71 rfl rfl ?_
        refine sv_iload_n (i := 1) dX5_writesDifference_72 rfl rfl ?_
        refine sv_iconst dX5_writesDifference_73 ?_
        refine sv_iload_n (i := 2) dX5_writesDifference_74 rfl rfl ?_
        refine sv_vv0 (As := [_, _, _]) clX5_77 dX5_writesDifference_75 ⟨_, rfl, rfl⟩ (by decide) rfl (Nat.le_of_ble_eq_true rfl) (by decide) (by decide) hsh.lt hsh.k (c_X5_put hsh _ _ _ (by omega) (by first | omega | (simp [sv_row, sv_u]; first | omega | exact hin _ _))) (fun f2 hf2 => ?_)
        subst hf2
        refine sv_aload_n (i := 0) dX5_writesDifference_78 rfl rfl ?_
        refine sv_iload_n (i := 1) dX5_writesDifference_79 rfl rfl ?_
        refine sv_iconst dX5_writesDifference_80 ?_
        refine sv_iload_n (i := 3) dX5_writesDifference_81 rfl rfl ?_
        refine sv_vv0 (As := [_, _, _]) clX5_77 dX5_writesDifference_82 ⟨_, rfl, rfl⟩ (by decide) rfl (Nat.le_of_ble_eq_true rfl) (by decide) (by decide) hsh.lt hsh.k (c_X5_put hsh _ _ _ (by omega) (by first | omega | (simp [sv_row, sv_u]; first | omega | exact hin _ _))) (fun f2 hf2 => ?_)
        subst hf2
        refine sv_return dX5_writesDifference_85 rfl ?_
        exact ⟨rfl, rfl, rfl, rfl, by rw [show i = 6 + 2 * f (o + 1) (29 * s + 1) by omega]; funext x y; grind [sv_u, sv_row, sp_up]⟩
      · refine sv_aload_n (i := 0) dX5_writesDifference_19 rfl rfl ?_
        refine sv_getR (kz := 3) flX5_16 dX5_writesDifference_20 rfl rfl hsh.lt hsh.k hsh.r3 ?_
        refine sv_iload dX5_writesDifference_23 rfl ?_
        refine sv_iald dX5_writesDifference_25 hsh.l3 hsh.s3 (by omega) ?_
        refine sv_aload_n (i := 0) dX5_writesDifference_26 rfl rfl ?_
        refine sv_getR (kz := 8) flX5_25 dX5_writesDifference_27 rfl rfl hsh.lt hsh.k hsh.r6 ?_
        refine sv_iload dX5_writesDifference_30 rfl ?_
        refine sv_iald dX5_writesDifference_32 hsh.l6 hsh.s6 (by omega) ?_
        refine sv_icmp_eq (tgt := 65) dX5_writesDifference_33 (by decide) (by first | omega | exact hin _ _ | decide | (simp [sv_u, sv_row]; omega) | (simp [sv_u, sv_row]; exact hin _ _) | exact hin1 _ _ | (simp [sv_u, sv_row]; exact hin1 _ _)) (by first | omega | exact hin _ _ | decide | (simp [sv_u, sv_row]; omega) | (simp [sv_u, sv_row]; exact hin _ _) | exact hin1 _ _ | (simp [sv_u, sv_row]; exact hin1 _ _)) (fun h_33 => ?_) (fun h_33 => ?_)
        · have h_33' : (f (o + 3) i = f (o + 6) i) ↔ (sv_row f (o + 1) (sp_wd (f (o + 1)) s (f (o + 3)) (f (o + 6)) i.toNat) (o + 3) i = sv_row f (o + 1) (sp_wd (f (o + 1)) s (f (o + 3)) (f (o + 6)) i.toNat) (o + 6) i) := by simp [sv_row]
          simp only [h_33, iff_true, iff_false] at h_33'
          refine sv_iinc dX5_writesDifference_65 rfl (by decide) rfl ?_
          refine sv_goto (tgt := 5) dX5_writesDifference_68 (by decide) ?_
          exact sv_cast (ih (i + 1) _ (by omega) (by omega) (by rw [sp_dn_s (by omega), hd]; simp [h_33'])) rfl rfl rfl rfl rfl (by rw [sp_wd_s (by omega)]; simp [h_33']; try simp [sv_u_row, sv_row_row, sv_row_eq, sv_row, hd])
        · have h_33' : ¬ f (o + 3) i = f (o + 6) i := by simpa [sv_row] using h_33
          refine sv_aload_n (i := 0) dX5_writesDifference_36 rfl rfl ?_
          refine sv_iload_n (i := 1) dX5_writesDifference_37 rfl rfl ?_
          refine sv_iconst dX5_writesDifference_38 ?_
          refine sv_iload_n (i := 3) dX5_writesDifference_39 rfl rfl ?_
          refine sv_iadd dX5_writesDifference_40 ?_
          refine sv_iload dX5_writesDifference_41 rfl ?_
          refine sv_vv0 (As := [_, _, _]) clX5_77 dX5_writesDifference_43 ⟨_, rfl, rfl⟩ (by decide) rfl (Nat.le_of_ble_eq_true rfl) (by decide) (by decide) hsh.lt hsh.k (c_X5_put hsh _ _ _ (by omega) (by first | omega | (simp [sv_row, sv_u]; first | omega | exact hin _ _))) (fun f2 hf2 => ?_)
          subst hf2
          refine sv_aload_n (i := 0) dX5_writesDifference_46 rfl rfl ?_
          refine sv_iload_n (i := 1) dX5_writesDifference_47 rfl rfl ?_
          refine sv_bipush dX5_writesDifference_48 (by decide) ?_
          refine sv_iload_n (i := 3) dX5_writesDifference_50 rfl rfl ?_
          refine sv_iadd dX5_writesDifference_51 ?_
          refine sv_aload_n (i := 0) dX5_writesDifference_52 rfl rfl ?_
          refine sv_getR (kz := 8) flX5_25 dX5_writesDifference_53 rfl rfl hsh.lt hsh.k hsh.r6 ?_
          refine sv_iload dX5_writesDifference_56 rfl ?_
          refine sv_iald dX5_writesDifference_58 hsh.l6 hsh.s6 (by omega) ?_
          refine sv_vv0 (As := [_, _, _]) clX5_77 dX5_writesDifference_59 ⟨_, rfl, rfl⟩ (by decide) rfl (Nat.le_of_ble_eq_true rfl) (by decide) (by decide) hsh.lt hsh.k (c_X5_put hsh _ _ _ (by omega) (by first | omega | (simp [sv_row, sv_u]; first | omega | exact hin _ _))) (fun f2 hf2 => ?_)
          subst hf2
          refine sv_iinc dX5_writesDifference_62 rfl (by decide) rfl ?_
          have h_33' : (f (o + 3) i = f (o + 6) i) ↔ (sv_row f (o + 1) (sp_wd (f (o + 1)) s (f (o + 3)) (f (o + 6)) i.toNat) (o + 3) i = sv_row f (o + 1) (sp_wd (f (o + 1)) s (f (o + 3)) (f (o + 6)) i.toNat) (o + 6) i) := by simp [sv_row]
          simp only [h_33, iff_true, iff_false] at h_33'
          refine sv_iinc dX5_writesDifference_65 rfl (by decide) rfl ?_
          refine sv_goto (tgt := 5) dX5_writesDifference_68 (by decide) ?_
          exact sv_cast (ih (i + 1) _ (by omega) (by omega) (by rw [sp_dn_s (by omega), hd]; simp [h_33'])) rfl rfl rfl rfl rfl (by rw [sp_wd_s (by omega)]; simp [h_33']; try simp [sv_u_row, sv_row_row, sv_row_eq, sv_row, hd])
  refine sv_iconst dX5_writesDifference_0 ?_
  refine sv_istore_n (i := 3) dX5_writesDifference_1 rfl (by decide) rfl ?_
  refine sv_iconst dX5_writesDifference_2 ?_
  refine sv_istore dX5_writesDifference_3 (by decide) rfl ?_
  exact sv_cast (lp 13 0 0 (by omega) (by omega) rfl) rfl rfl rfl rfl rfl (by rw [show (0 : Int).toNat = 0 from rfl]; exact sv_row_id)
