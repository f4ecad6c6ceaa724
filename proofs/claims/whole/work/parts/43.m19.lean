set_option maxRecDepth 100000 in
set_option maxHeartbeats 4000000 in
theorem c_X5_number {X : sv_X} {S : sv_S} {f : sv_F} {r : sv_R} {g : sv_G} {o : Nat} (hsh : sv_M5 S r o) (h11 : 0 ≤ f o 11 ∧ f o 11 ≤ f o 10) (h10 : f o 10 ≤ 80) (lo hi : Int) (hlo : sv_in lo) (hhi : sv_in hi) : sv_C X 2 MX5_number 0 0 [sv_r o, sv_i lo, sv_i hi] S f r g (sv_qi (fun a f' => (∃ q φ : Int, f o 11 ≤ q ∧ q ≤ f o 10 ∧ f' = sv_u (sv_u f o 11 q) o 12 φ ∧ (0 ≤ a ∧ a ≤ 99) ∧ (f o 12 ≠ -1 → φ = f o 12) ∧ (f o 12 = -1 → φ = sp_nf (f (o + 7)) (f o 10) (f o 11) lo hi ∧ (φ = -1 → a = sp_nv (f (o + 7)) (f o 10) (f o 11) ∧ q = sp_sk (f (o + 7)) (f o 10) (f o 11 + sp_nl (f (o + 7)) (f o 10) (f o 11)))))) S r g) := by
  refine sv_met (by decide) (by simp [lg_sl, sv_cv, va_rf, Value.category]) ?_
  refine sv_fr fun hin => ?_
  have f99 : ∀ (q n φ : Int), (f o 11 ≤ q ∧ q ≤ f o 10) → (0 ≤ n ∧ n ≤ 99) → (f o 12 ≠ -1 → φ = f o 12) → (f o 12 = -1 → φ = sp_nf (f (o + 7)) (f o 10) (f o 11) lo hi ∧ (φ = -1 → n = sp_nv (f (o + 7)) (f o 10) (f o 11) ∧ q = f o 11 + sp_nl (f (o + 7)) (f o 10) (f o 11))) → sv_T X (sv_rm 2 0 0) MX5_number (sv_Zm X 0 0 (sv_qi (fun a f' => (∃ q φ : Int, f o 11 ≤ q ∧ q ≤ f o 10 ∧ f' = sv_u (sv_u f o 11 q) o 12 φ ∧ (0 ≤ a ∧ a ≤ 99) ∧ (f o 12 ≠ -1 → φ = f o 12) ∧ (f o 12 = -1 → φ = sp_nf (f (o + 7)) (f o 10) (f o 11) lo hi ∧ (φ = -1 → a = sp_nv (f (o + 7)) (f o 10) (f o 11) ∧ q = sp_sk (f (o + 7)) (f o 10) (f o 11 + sp_nl (f (o + 7)) (f o 10) (f o 11)))))) S r g)) 0 0 99 [some (sv_r o), some (sv_i lo), some (sv_i hi), some (sv_i (f o 11)), some (sv_i n)] [] S ((sv_u (sv_u f o 11 q) o 12 φ)) r g := by
    intro q n φ hq hn h1 h2
    refine sv_fr fun hin1 => ?_
    have e7 : (sv_u (sv_u f o 11 q) o 12 φ) (o + 7) = f (o + 7) := by rw [sv_u_ne (by omega), sv_u_ne (by omega)]
    have e10 : (sv_u (sv_u f o 11 q) o 12 φ) o 10 = f o 10 := by simp [sv_u]
    have e11 : (sv_u (sv_u f o 11 q) o 12 φ) o 11 = q := by simp [sv_u]
    have e12 : (sv_u (sv_u f o 11 q) o 12 φ) o 12 = φ := by simp [sv_u]
    refine sv_aload_n (i := 0) dX5_number_99 rfl rfl ?_
    refine sv_vv0 (As := []) clX5_104 dX5_number_100 ⟨_, rfl, rfl⟩ (by decide) rfl (Nat.le_of_ble_eq_true rfl) (by decide) (by decide) hsh.lt hsh.k (c_X5_skips (f := (sv_u (sv_u f o 11 q) o 12 φ)) hsh (by rw [e10, e11]; omega) (by rw [e10]; exact h10)) (fun f2 hf2 => ?_)
    rw [e7, e10, e11] at hf2
    refine sv_iload dX5_number_103 rfl ?_
    refine sv_ireturn dX5_number_105 rfl ?_
    have hb := sp_sk_bd (t := f (o + 7)) hq.2
    refine ⟨_, rfl, rfl, rfl, rfl, sp_sk (f (o + 7)) (f o 10) q, φ, by omega, by omega, ?_, hn, ?_, ?_⟩
    · rw [hf2]; funext x y; simp [sv_u]; grind
    · exact h1
    · exact fun e => ⟨(h2 e).1, fun e2 => ⟨((h2 e).2 e2).1, by rw [((h2 e).2 e2).2]⟩⟩
  have f84 : ∀ (q n φ : Int), (f o 11 ≤ q ∧ q ≤ f o 10) → (0 ≤ n ∧ n ≤ 99) → (f o 12 ≠ -1 → φ = f o 12) → (f o 12 = -1 → q = f o 11 + sp_nl (f (o + 7)) (f o 10) (f o 11) ∧ n = sp_nv (f (o + 7)) (f o 10) (f o 11) ∧ φ = if sp_nl (f (o + 7)) (f o 10) (f o 11) = 0 ∨ ¬ (lo ≤ sp_nv (f (o + 7)) (f o 10) (f o 11) ∧ sp_nv (f (o + 7)) (f o 10) (f o 11) ≤ hi) then f o 11 else -1) → sv_T X (sv_rm 2 0 0) MX5_number (sv_Zm X 0 0 (sv_qi (fun a f' => (∃ q φ : Int, f o 11 ≤ q ∧ q ≤ f o 10 ∧ f' = sv_u (sv_u f o 11 q) o 12 φ ∧ (0 ≤ a ∧ a ≤ 99) ∧ (f o 12 ≠ -1 → φ = f o 12) ∧ (f o 12 = -1 → φ = sp_nf (f (o + 7)) (f o 10) (f o 11) lo hi ∧ (φ = -1 → a = sp_nv (f (o + 7)) (f o 10) (f o 11) ∧ q = sp_sk (f (o + 7)) (f o 10) (f o 11 + sp_nl (f (o + 7)) (f o 10) (f o 11)))))) S r g)) 0 0 84 [some (sv_r o), some (sv_i lo), some (sv_i hi), some (sv_i (f o 11)), some (sv_i n)] [] S ((sv_u (sv_u f o 11 q) o 12 φ)) r g := by
    intro q n φ hq hn h1 h2
    refine sv_fr fun hin1 => ?_
    have e7 : (sv_u (sv_u f o 11 q) o 12 φ) (o + 7) = f (o + 7) := by rw [sv_u_ne (by omega), sv_u_ne (by omega)]
    have e10 : (sv_u (sv_u f o 11 q) o 12 φ) o 10 = f o 10 := by simp [sv_u]
    have e11 : (sv_u (sv_u f o 11 q) o 12 φ) o 11 = q := by simp [sv_u]
    have e12 : (sv_u (sv_u f o 11 q) o 12 φ) o 12 = φ := by simp [sv_u]
    refine sv_aload_n (i := 0) dX5_number_84 rfl rfl ?_
    refine sv_vp0 (As := []) clX5_97 dX5_number_85 ⟨_, rfl, rfl⟩ (by decide) rfl (Nat.le_of_ble_eq_true rfl) (by decide) (by decide) hsh.lt hsh.k (c_X5_isDigit (f := (sv_u (sv_u f o 11 q) o 12 φ)) hsh (by rw [e10, e11]; omega) (by rw [e10]; exact h10)) ?_
    rw [e7, e10, e11]
    refine sv_bif_eq (tgt := 99) dX5_number_88 (by decide) (fun h_88 => ?_) (fun h_88 => ?_)
    · first
      | (subst hf2
         rw [e11, e12, sv_u_u]
         exact f99 q n _ hq hn (by intro e; rw [if_neg (by rw [h1 e]; exact e)]; exact h1 e) (by intro e; unfold sp_nf; grind))
      | exact f99 q n φ hq hn h1 (by intro e; unfold sp_nf; grind)
    · refine sv_aload_n (i := 0) dX5_number_91 rfl rfl ?_
      refine sv_aload_n (i := 0) dX5_number_92 rfl rfl ?_
      refine sv_getI (kz := 11) flX5_88 dX5_number_93 rfl rfl hsh.lt hsh.k ?_
      refine sv_vv0 (As := [_]) clX5_101 dX5_number_96 ⟨_, rfl, rfl⟩ (by decide) rfl (Nat.le_of_ble_eq_true rfl) (by decide) (by decide) hsh.lt hsh.k (c_X5_fails (f := (sv_u (sv_u f o 11 q) o 12 φ)) hsh _ (by rw [e11]; omega)) (fun f2 hf2 => ?_)
      first
      | (subst hf2
         rw [e11, e12, sv_u_u]
         exact f99 q n _ hq hn (by intro e; rw [if_neg (by rw [h1 e]; exact e)]; exact h1 e) (by intro e; unfold sp_nf; grind))
      | exact f99 q n φ hq hn h1 (by intro e; unfold sp_nf; grind)
  have f61 : ∀ (q n : Int), ((f o 12 ≠ -1 ∧ q = f o 11 ∧ n = 0) ∨ (f o 12 = -1 ∧ q = f o 11 + sp_nl (f (o + 7)) (f o 10) (f o 11) ∧ n = sp_nv (f (o + 7)) (f o 10) (f o 11))) → sv_T X (sv_rm 2 0 0) MX5_number (sv_Zm X 0 0 (sv_qi (fun a f' => (∃ q φ : Int, f o 11 ≤ q ∧ q ≤ f o 10 ∧ f' = sv_u (sv_u f o 11 q) o 12 φ ∧ (0 ≤ a ∧ a ≤ 99) ∧ (f o 12 ≠ -1 → φ = f o 12) ∧ (f o 12 = -1 → φ = sp_nf (f (o + 7)) (f o 10) (f o 11) lo hi ∧ (φ = -1 → a = sp_nv (f (o + 7)) (f o 10) (f o 11) ∧ q = sp_sk (f (o + 7)) (f o 10) (f o 11 + sp_nl (f (o + 7)) (f o 10) (f o 11)))))) S r g)) 0 0 61 [some (sv_r o), some (sv_i lo), some (sv_i hi), some (sv_i (f o 11)), some (sv_i n)] [] S ((sv_u f o 11 q)) r g := by
    intro q n h3
    refine sv_fr fun hin1 => ?_
    have e7 : (sv_u f o 11 q) (o + 7) = f (o + 7) := by rw [sv_u_ne (by omega)]
    have e10 : (sv_u f o 11 q) o 10 = f o 10 := by simp [sv_u]
    have e11 : (sv_u f o 11 q) o 11 = q := by simp [sv_u]
    have e12 : (sv_u f o 11 q) o 12 = f o 12 := by simp [sv_u]
    have hb1 := sp_nl_bd (t := f (o + 7)) h11.2
    have hb2 := sp_nv_bd (f (o + 7)) (f o 10) (f o 11)
    have hq : f o 11 ≤ q ∧ q ≤ f o 10 := by omega
    have hn : 0 ≤ n ∧ n ≤ 99 := by omega
    refine sv_aload_n (i := 0) dX5_number_61 rfl rfl ?_
    refine sv_getI (kz := 11) flX5_88 dX5_number_62 rfl rfl hsh.lt hsh.k ?_
    refine sv_iload_n (i := 3) dX5_number_65 rfl rfl ?_
    rw [e11]
    refine sv_icmp_eq (tgt := 79) dX5_number_66 (by decide) (by first | omega | exact hin _ _ | decide | (simp [sv_u, sv_row]; omega) | (simp [sv_u, sv_row]; exact hin _ _) | exact hin1 _ _ | (simp [sv_u, sv_row]; exact hin1 _ _)) (by first | omega | exact hin _ _ | decide | (simp [sv_u, sv_row]; omega) | (simp [sv_u, sv_row]; exact hin _ _) | exact hin1 _ _ | (simp [sv_u, sv_row]; exact hin1 _ _)) (fun h_66 => ?_) (fun h_66 => ?_)
    · refine sv_aload_n (i := 0) dX5_number_79 rfl rfl ?_
      refine sv_iload_n (i := 3) dX5_number_80 rfl rfl ?_
      refine sv_vv0 (As := [_]) clX5_101 dX5_number_81 ⟨_, rfl, rfl⟩ (by decide) rfl (Nat.le_of_ble_eq_true rfl) (by decide) (by decide) hsh.lt hsh.k (c_X5_fails (f := (sv_u f o 11 q)) hsh _ (hin _ _)) (fun f2 hf2 => ?_)
      first
      | (subst hf2
         rw [e12]
         exact f84 q n _ hq hn (by intro e; rw [if_neg e]) (by intro e; rw [if_pos e]; grind))
      | (rw [sv_u_self e12]
         exact f84 q n _ hq hn (fun _ => rfl) (by intro e; grind))
    · refine sv_iload dX5_number_69 rfl ?_
      refine sv_iload_n (i := 1) dX5_number_71 rfl rfl ?_
      refine sv_iload_n (i := 2) dX5_number_72 rfl rfl ?_
      refine sv_sp0 (As := [_, _, _]) clX5_81 dX5_number_73 rfl (Nat.le_of_ble_eq_true rfl) (by decide) (by decide) (c_X5_in _ _ _ (by omega) hlo hhi) ?_
      refine sv_bif_ne (tgt := 84) dX5_number_76 (by decide) (fun h_76 => ?_) (fun h_76 => ?_)
      · first
        | (subst hf2
           rw [e12]
           exact f84 q n _ hq hn (by intro e; rw [if_neg e]) (by intro e; rw [if_pos e]; grind))
        | (rw [sv_u_self e12]
           exact f84 q n _ hq hn (fun _ => rfl) (by intro e; grind))
      · refine sv_aload_n (i := 0) dX5_number_79 rfl rfl ?_
        refine sv_iload_n (i := 3) dX5_number_80 rfl rfl ?_
        refine sv_vv0 (As := [_]) clX5_101 dX5_number_81 ⟨_, rfl, rfl⟩ (by decide) rfl (Nat.le_of_ble_eq_true rfl) (by decide) (by decide) hsh.lt hsh.k (c_X5_fails (f := (sv_u f o 11 q)) hsh _ (hin _ _)) (fun f2 hf2 => ?_)
        first
        | (subst hf2
           rw [e12]
           exact f84 q n _ hq hn (by intro e; rw [if_neg e]) (by intro e; rw [if_pos e]; grind))
        | (rw [sv_u_self e12]
           exact f84 q n _ hq hn (fun _ => rfl) (by intro e; grind))
  have lp : ∀ (k : Nat) (q : Int) (n : Int), f o 11 + 2 - q < (k : Int) → (f o 11 ≤ q ∧ q ≤ f o 10) → ((q = f o 11 ∧ n = 0) ∨ (f o 12 = -1 ∧ sp_dg (f (o + 7)) (f o 10) (f o 11) = true ∧ ((q = f o 11 + 1 ∧ n = f (o + 7) (f o 11) - 48) ∨ (sp_dg (f (o + 7)) (f o 10) (f o 11 + 1) = true ∧ q = f o 11 + 2 ∧ n = 10 * (f (o + 7) (f o 11) - 48) + (f (o + 7) (f o 11 + 1) - 48))))) → sv_T X (sv_rm 2 0 0) MX5_number (sv_Zm X 0 0 (sv_qi (fun a f' => (∃ q φ : Int, f o 11 ≤ q ∧ q ≤ f o 10 ∧ f' = sv_u (sv_u f o 11 q) o 12 φ ∧ (0 ≤ a ∧ a ≤ 99) ∧ (f o 12 ≠ -1 → φ = f o 12) ∧ (f o 12 = -1 → φ = sp_nf (f (o + 7)) (f o 10) (f o 11) lo hi ∧ (φ = -1 → a = sp_nv (f (o + 7)) (f o 10) (f o 11) ∧ q = sp_sk (f (o + 7)) (f o 10) (f o 11 + sp_nl (f (o + 7)) (f o 10) (f o 11)))))) S r g)) 0 0 8 [some (sv_r o), some (sv_i lo), some (sv_i hi), some (sv_i (f o 11)), some (sv_i n)] [] S ((sv_u f o 11 q)) r g := by
    intro k
    induction k with
    | zero =>
      intro q n hk h1 h3
      exact absurd hk (by omega)
    | succ k ih =>
      intro q n hk h1 h3
      refine sv_fr fun hin1 => ?_
      have e7 : (sv_u f o 11 q) (o + 7) = f (o + 7) := by rw [sv_u_ne (by omega)]
      have e10 : (sv_u f o 11 q) o 10 = f o 10 := by simp [sv_u]
      have e11 : (sv_u f o 11 q) o 11 = q := by simp [sv_u]
      have e12 : (sv_u f o 11 q) o 12 = f o 12 := by simp [sv_u]
      refine sv_aload_n (i := 0) dX5_number_8 rfl rfl ?_
      refine sv_getI (kz := 12) flX5_94 dX5_number_9 rfl rfl hsh.lt hsh.k ?_
      rw [e12]
      refine sv_iconst dX5_number_12 ?_
      refine sv_icmp_ne (tgt := 61) dX5_number_13 (by decide) (by first | omega | exact hin _ _ | decide | (simp [sv_u, sv_row]; omega) | (simp [sv_u, sv_row]; exact hin _ _) | exact hin1 _ _ | (simp [sv_u, sv_row]; exact hin1 _ _)) (by first | omega | exact hin _ _ | decide | (simp [sv_u, sv_row]; omega) | (simp [sv_u, sv_row]; exact hin _ _) | exact hin1 _ _ | (simp [sv_u, sv_row]; exact hin1 _ _)) (fun h_13 => ?_) (fun h_13 => ?_)
      · exact f61 q n (by unfold sp_nl sp_nv; grind)
      · refine sv_aload_n (i := 0) dX5_number_16 rfl rfl ?_
        refine sv_getI (kz := 11) flX5_88 dX5_number_17 rfl rfl hsh.lt hsh.k ?_
        rw [e11]
        refine sv_iload_n (i := 3) dX5_number_20 rfl rfl ?_
        refine sv_iconst dX5_number_21 ?_
        refine sv_iadd dX5_number_22 ?_
        refine sv_icmp_ge (tgt := 61) dX5_number_23 (by decide) (by first | omega | exact hin _ _ | decide | (simp [sv_u, sv_row]; omega) | (simp [sv_u, sv_row]; exact hin _ _) | exact hin1 _ _ | (simp [sv_u, sv_row]; exact hin1 _ _)) (by first | omega | exact hin _ _ | decide | (simp [sv_u, sv_row]; omega) | (simp [sv_u, sv_row]; exact hin _ _) | exact hin1 _ _ | (simp [sv_u, sv_row]; exact hin1 _ _)) (fun h_23 => ?_) (fun h_23 => ?_)
        · exact f61 q n (by unfold sp_nl sp_nv; grind)
        · refine sv_aload_n (i := 0) dX5_number_26 rfl rfl ?_
          refine sv_vp0 (As := []) clX5_97 dX5_number_27 ⟨_, rfl, rfl⟩ (by decide) rfl (Nat.le_of_ble_eq_true rfl) (by decide) (by decide) hsh.lt hsh.k (c_X5_isDigit (f := (sv_u f o 11 q)) hsh (by rw [e10, e11]; omega) (by rw [e10]; exact h10)) ?_
          rw [e7, e10, e11]
          refine sv_bif_eq (tgt := 61) dX5_number_30 (by decide) (fun h_30 => ?_) (fun h_30 => ?_)
          · exact f61 q n (by unfold sp_nl sp_nv; grind)
          · refine sv_bipush dX5_number_33 (by decide) ?_
            refine sv_iload dX5_number_35 rfl ?_
            refine sv_imul dX5_number_37 ?_
            refine sv_aload_n (i := 0) dX5_number_38 rfl rfl ?_
            refine sv_vp0 (As := []) clX5_91 dX5_number_39 ⟨_, rfl, rfl⟩ (by decide) rfl (Nat.le_of_ble_eq_true rfl) (by decide) (by decide) hsh.lt hsh.k (c_X5_next (f := (sv_u f o 11 q)) hsh (by rw [e10, e11]; omega) (by rw [e10]; exact h10)) ?_
            rw [e7, e10, e11]
            have hlt := sp_dg_lt (by assumption : sp_dg (f (o + 7)) (f o 10) q = true)
            have hnx : sp_nx (f (o + 7)) (f o 10) q = f (o + 7) q := by unfold sp_nx; rw [if_pos hlt]
            rw [hnx]
            have hdd := sp_dg_iff.mp (by assumption : sp_dg (f (o + 7)) (f o 10) q = true)
            rw [hnx] at hdd
            refine sv_iadd dX5_number_42 ?_
            refine sv_bipush dX5_number_43 (by decide) ?_
            refine sv_isub dX5_number_45 ?_
            refine sv_istore dX5_number_46 (by decide) rfl ?_
            refine sv_aload_n (i := 0) dX5_number_48 rfl rfl ?_
            refine sv_dup dX5_number_49 rfl ?_
            refine sv_getI (kz := 11) flX5_88 dX5_number_50 rfl rfl hsh.lt hsh.k ?_
            rw [e11]
            refine sv_iconst dX5_number_53 ?_
            refine sv_iadd dX5_number_54 ?_
            refine sv_putI (kz := 11) flX5_88 dX5_number_55 (Or.inl rfl) rfl rfl hsh.lt hsh.k (by first | omega | exact hin _ _ | decide | (simp [sv_u, sv_row]; omega) | (simp [sv_u, sv_row]; exact hin _ _) | exact hin1 _ _ | (simp [sv_u, sv_row]; exact hin1 _ _)) ?_
            refine sv_goto (tgt := 8) dX5_number_58 (by decide) ?_
            rw [sv_u_u]
            exact ih (q + 1) (10 * n + f (o + 7) q - 48) (by omega) (by omega) (by grind)
  refine sv_aload_n (i := 0) dX5_number_0 rfl rfl ?_
  refine sv_getI (kz := 11) flX5_88 dX5_number_1 rfl rfl hsh.lt hsh.k ?_
  refine sv_istore_n (i := 3) dX5_number_4 rfl (by decide) rfl ?_
  refine sv_iconst dX5_number_5 ?_
  refine sv_istore dX5_number_6 (by decide) rfl ?_
  exact sv_cast (lp 3 (f o 11) 0 (by omega) (by omega) (Or.inl ⟨rfl, rfl⟩)) rfl rfl rfl rfl rfl (sv_u_self rfl).symm
