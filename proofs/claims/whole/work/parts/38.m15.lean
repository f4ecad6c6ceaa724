set_option maxRecDepth 100000 in
set_option maxHeartbeats 4000000 in
theorem c_X5_drop {X : sv_X} {S : sv_S} {f : sv_F} {r : sv_R} {g : sv_G} {o : Nat} {m : Int → Int} (hsh : sv_M5 S r o) (hm : f (o + 1) = m) (hw : sp_wt m) (k md : Int) (hk : sv_in k) (hmd : md = 0 ∨ md = 1) (hu : 0 ≤ f o 2 ∧ f o 2 ≤ 6) : sv_C X 5 MX5_drop 0 0 [sv_r o, sv_i k, sv_i md] S f r g (sv_qi (fun a f' => (sp_slot m k = -1 ∧ a = -2 ∧ f' = f) ∨ (sp_slot m k ≠ -1 ∧ a = sp_bo (sp_drop m k md) k ∧ sp_chg o f f' ∧ f' (o + 1) = sp_drop m k md)) S r g) := by
  refine sv_met (by decide) (by simp [lg_sl, sv_cv, va_rf, Value.category]) ?_
  refine sv_fr fun hin => ?_
  have hcc := hw.c
  have hcm := hw.cm
  have h168 : ∀ (f1 : sv_F) (mm : Int → Int), sp_slot m k ≠ -1 → sp_chg o f f1 → f1 (o + 1) = mm → sp_sh mm (sp_slot m k) (m 580) k = sp_drop m k md → ∀ x : Int, sv_T X (sv_rm 5 0 0) MX5_drop (sv_Zm X 0 0 (sv_qi (fun a f' => (sp_slot m k = -1 ∧ a = -2 ∧ f' = f) ∨ (sp_slot m k ≠ -1 ∧ a = sp_bo (sp_drop m k md) k ∧ sp_chg o f f' ∧ f' (o + 1) = sp_drop m k md)) S r g)) 0 0 168 [some (sv_r o), some (sv_i k), some (sv_i md), some (sv_i (sp_slot m k)), some (sv_i x)] [] S (sv_u (sv_row f1 (o + 1) (fun j => if 29 * sp_slot m k ≤ j ∧ j < 29 * (m 580 - 1) then mm (j + 29) else if j = 580 then m 580 - 1 else mm j)) (o + 1) 595 (if mm 595 = k then -1 else mm 595)) r g := by
    intro f1 mm hsl hch hmm hdd x
    obtain ⟨s0, s1, s2⟩ := sp_slot_in hsl
    have hfin : sv_u (sv_row f1 (o + 1) (fun j => if 29 * sp_slot m k ≤ j ∧ j < 29 * (m 580 - 1) then mm (j + 29) else if j = 580 then m 580 - 1 else mm j)) (o + 1) 595 (if mm 595 = k then -1 else mm 595) (o + 1) = sp_sh mm (sp_slot m k) (m 580) k := by
      rw [sv_u_row, sv_row_eq, sv_row_eq]
      funext j
      unfold sp_up sp_sh
      by_cases e : j = 595
      · rw [if_pos e, if_pos e]
      · rw [if_neg e, if_neg e]
        dsimp only
        by_cases e2 : j = 580
        · subst e2
          rw [if_neg (by omega), if_pos rfl, if_pos rfl]
        · rw [if_neg e2, if_neg e2]
    have hcf : 0 ≤ sp_sh mm (sp_slot m k) (m 580) k 580 ∧ sp_sh mm (sp_slot m k) (m 580) k 580 ≤ 20 := by
      unfold sp_sh
      rw [if_neg (by omega), if_pos rfl]
      omega
    refine sv_aload_n (i := 0) dX5_drop_168 rfl rfl ?_
    refine sv_iload_n (i := 1) dX5_drop_169 rfl rfl ?_
    refine sv_vp0 (As := [_]) clX5_167 dX5_drop_170 ⟨_, rfl, rfl⟩ (by decide) rfl (Nat.le_of_ble_eq_true rfl) (by decide) (by decide) hsh.lt hsh.k (c_X5_basedOn (m := sp_sh mm (sp_slot m k) (m 580) k) hsh hfin hcf _ (by omega)) ?_
    refine sv_ireturn dX5_drop_173 rfl ?_
    refine ⟨_, rfl, rfl, rfl, rfl, Or.inr ⟨hsl, by rw [hdd], ⟨fun x hx => ?_, ?_, ?_, ?_, ?_⟩, by rw [hfin, hdd]⟩⟩
    · rw [sv_u_ne (by omega), sv_row_ne (by omega)]; exact hch.1 x hx
    · rw [sv_u_ne (by omega), sv_row_ne (by omega)]; exact hch.2.1
    · rw [sv_u_ne (by omega), sv_row_ne (by omega)]; exact hch.2.2.1
    · rw [sv_u_ne (by omega), sv_row_ne (by omega)]; exact hch.2.2.2.1
    · rw [sv_u_ne (by omega), sv_row_ne (by omega)]; exact hch.2.2.2.2
  have h79 : ∀ (f1 : sv_F) (mm : Int → Int), sp_slot m k ≠ -1 → sp_chg o f f1 → f1 (o + 1) = mm → sp_sh mm (sp_slot m k) (m 580) k = sp_drop m k md → mm 580 = m 580 → sv_T X (sv_rm 5 0 0) MX5_drop (sv_Zm X 0 0 (sv_qi (fun a f' => (sp_slot m k = -1 ∧ a = -2 ∧ f' = f) ∨ (sp_slot m k ≠ -1 ∧ a = sp_bo (sp_drop m k md) k ∧ sp_chg o f f' ∧ f' (o + 1) = sp_drop m k md)) S r g)) 0 0 79 [some (sv_r o), some (sv_i k), some (sv_i md), some (sv_i (sp_slot m k)), none] [] S (f1) r g := by
    intro f1 mm hsl hch hmm hdd h580
    obtain ⟨s0, s1, s2⟩ := sp_slot_in hsl
    refine sv_fr fun hin1 => ?_
    have l97 : ∀ (q : Nat) (x : Int), 29 * (m 580 - 1) - x < (q : Int) → (29 * sp_slot m k ≤ x ∧ x ≤ 29 * (m 580 - 1)) → sv_T X (sv_rm 5 0 0) MX5_drop (sv_Zm X 0 0 (sv_qi (fun a f' => (sp_slot m k = -1 ∧ a = -2 ∧ f' = f) ∨ (sp_slot m k ≠ -1 ∧ a = sp_bo (sp_drop m k md) k ∧ sp_chg o f f' ∧ f' (o + 1) = sp_drop m k md)) S r g)) 0 0 97 [some (sv_r o), some (sv_i k), some (sv_i md), some (sv_i (sp_slot m k)), some (sv_i x)] [] S (sv_row f1 (o + 1) (fun j => if 29 * sp_slot m k ≤ j ∧ j < x then mm (j + 29) else if j = 580 then m 580 - 1 else mm j)) r g := by
      intro q
      induction q with
      | zero =>
        intro x hk h1
        exact absurd hk (by omega)
      | succ q ih =>
        intro x hk h1
        refine sv_fr fun hin1 => ?_
        refine sv_iload dX5_drop_97 rfl ?_
        refine sv_bipush dX5_drop_99 (by decide) ?_
        refine sv_aload_n (i := 0) dX5_drop_101 rfl rfl ?_
        refine sv_getR (kz := 0) flX5_7 dX5_drop_102 rfl rfl hsh.lt hsh.k hsh.r1 ?_
        refine sv_sipush dX5_drop_105 (by decide) ?_
        refine sv_iald dX5_drop_108 hsh.l1 hsh.s1 (by omega) ?_
        rw [show sv_row f1 (o + 1) (fun j => if 29 * sp_slot m k ≤ j ∧ j < x then mm (j + 29) else if j = 580 then m 580 - 1 else mm j) (o + 1) 580 = m 580 - 1 by rw [sv_row_eq]; show (if 29 * sp_slot m k ≤ 580 ∧ 580 < x then mm (580 + 29) else if (580 : Int) = 580 then m 580 - 1 else mm 580) = _; rw [if_neg (by omega), if_pos rfl]]
        refine sv_imul dX5_drop_109 ?_
        refine sv_icmp_ge (tgt := 136) dX5_drop_110 (by decide) (by first | omega | exact hin _ _ | decide | (simp [sv_u, sv_row]; omega) | (simp [sv_u, sv_row]; exact hin _ _) | exact hin1 _ _ | (simp [sv_u, sv_row]; exact hin1 _ _)) (by first | omega | exact hin _ _ | decide | (simp [sv_u, sv_row]; omega) | (simp [sv_u, sv_row]; exact hin _ _) | exact hin1 _ _ | (simp [sv_u, sv_row]; exact hin1 _ _)) (fun h_110 => ?_) (fun h_110 => ?_)
        · have hx : x = 29 * (m 580 - 1) := by omega
          subst hx
          have h595 : sv_row f1 (o + 1) (fun j => if 29 * sp_slot m k ≤ j ∧ j < 29 * (m 580 - 1) then mm (j + 29) else if j = 580 then m 580 - 1 else mm j) (o + 1) 595 = mm 595 := by
            rw [sv_row_eq]
            show (if 29 * sp_slot m k ≤ 595 ∧ 595 < 29 * (m 580 - 1) then mm (595 + 29) else if (595 : Int) = 580 then m 580 - 1 else mm 595) = _
            rw [if_neg (by omega), if_neg (by omega)]
          have hmi : sv_in (mm 595) := by rw [← h595]; exact hin1 _ _
          refine sv_aload_n (i := 0) dX5_drop_136 rfl rfl ?_
          refine sv_getR (kz := 0) flX5_7 dX5_drop_137 rfl rfl hsh.lt hsh.k hsh.r1 ?_
          refine sv_sipush dX5_drop_140 (by decide) ?_
          refine sv_aload_n (i := 0) dX5_drop_143 rfl rfl ?_
          refine sv_getR (kz := 0) flX5_7 dX5_drop_144 rfl rfl hsh.lt hsh.k hsh.r1 ?_
          refine sv_sipush dX5_drop_147 (by decide) ?_
          refine sv_iald dX5_drop_150 hsh.l1 hsh.s1 (by omega) ?_
          rw [h595]
          refine sv_iload_n (i := 1) dX5_drop_151 rfl rfl ?_
          refine sv_icmp_ne (tgt := 159) dX5_drop_152 (by decide) (by first | omega | exact hin _ _ | decide | (simp [sv_u, sv_row]; omega) | (simp [sv_u, sv_row]; exact hin _ _) | exact hin1 _ _ | (simp [sv_u, sv_row]; exact hin1 _ _)) (by first | omega | exact hin _ _ | decide | (simp [sv_u, sv_row]; omega) | (simp [sv_u, sv_row]; exact hin _ _) | exact hin1 _ _ | (simp [sv_u, sv_row]; exact hin1 _ _)) (fun h_152 => ?_) (fun h_152 => ?_)
          · refine sv_aload_n (i := 0) dX5_drop_159 rfl rfl ?_
            refine sv_getR (kz := 0) flX5_7 dX5_drop_160 rfl rfl hsh.lt hsh.k hsh.r1 ?_
            refine sv_sipush dX5_drop_163 (by decide) ?_
            refine sv_iald dX5_drop_166 hsh.l1 hsh.s1 (by omega) ?_
            try rw [h595]
            refine sv_iast dX5_drop_167 hsh.l1 hsh.s1 (by omega) (by first | omega | exact hin _ _ | decide | (simp [sv_u, sv_row]; omega) | (simp [sv_u, sv_row]; exact hin _ _) | exact hin1 _ _ | (simp [sv_u, sv_row]; exact hin1 _ _)) ?_
            first
              | exact sv_cast (h168 f1 mm hsl hch hmm hdd _) rfl rfl rfl rfl rfl (by rw [if_pos (by assumption)])
              | exact sv_cast (h168 f1 mm hsl hch hmm hdd _) rfl rfl rfl rfl rfl (by rw [if_neg (by assumption)])
          · refine sv_iconst dX5_drop_155 ?_
            refine sv_goto (tgt := 167) dX5_drop_156 (by decide) ?_
            try rw [h595]
            refine sv_iast dX5_drop_167 hsh.l1 hsh.s1 (by omega) (by first | omega | exact hin _ _ | decide | (simp [sv_u, sv_row]; omega) | (simp [sv_u, sv_row]; exact hin _ _) | exact hin1 _ _ | (simp [sv_u, sv_row]; exact hin1 _ _)) ?_
            first
              | exact sv_cast (h168 f1 mm hsl hch hmm hdd _) rfl rfl rfl rfl rfl (by rw [if_pos (by assumption)])
              | exact sv_cast (h168 f1 mm hsl hch hmm hdd _) rfl rfl rfl rfl rfl (by rw [if_neg (by assumption)])
        · refine sv_aload_n (i := 0) dX5_drop_113 rfl rfl ?_
          refine sv_getR (kz := 0) flX5_7 dX5_drop_114 rfl rfl hsh.lt hsh.k hsh.r1 ?_
          refine sv_iload dX5_drop_117 rfl ?_
          refine sv_aload_n (i := 0) dX5_drop_119 rfl rfl ?_
          refine sv_getR (kz := 0) flX5_7 dX5_drop_120 rfl rfl hsh.lt hsh.k hsh.r1 ?_
          refine sv_iload dX5_drop_123 rfl ?_
          refine sv_bipush dX5_drop_125 (by decide) ?_
          refine sv_iadd dX5_drop_127 ?_
          refine sv_iald dX5_drop_128 hsh.l1 hsh.s1 (by omega) ?_
          refine sv_iast dX5_drop_129 hsh.l1 hsh.s1 (by omega) (by first | omega | exact hin _ _ | decide | (simp [sv_u, sv_row]; omega) | (simp [sv_u, sv_row]; exact hin _ _) | exact hin1 _ _ | (simp [sv_u, sv_row]; exact hin1 _ _)) ?_
          refine sv_iinc dX5_drop_130 rfl (by decide) rfl ?_
          refine sv_goto (tgt := 97) dX5_drop_133 (by decide) ?_
          refine sv_cast (ih (x + 1) (by omega) (by omega)) rfl rfl rfl rfl rfl ?_
          rw [sv_u_row, sv_row_row]
          refine congrArg (sv_row f1 (o + 1)) (funext fun j => ?_)
          simp only [sv_row_eq, sp_up]
          by_cases e : j = x
          · subst e
            rw [if_pos (by omega), if_pos rfl, if_neg (by omega), if_neg (by omega)]
          · rw [if_neg e]
            by_cases e2 : 29 * sp_slot m k ≤ j ∧ j < x
            · rw [if_pos (by omega), if_pos e2]
            · rw [if_neg (by omega), if_neg e2]
    refine sv_aload_n (i := 0) dX5_drop_79 rfl rfl ?_
    refine sv_getR (kz := 0) flX5_7 dX5_drop_80 rfl rfl hsh.lt hsh.k hsh.r1 ?_
    refine sv_sipush dX5_drop_83 (by decide) ?_
    refine sv_dup2 dX5_drop_86 rfl rfl ?_
    refine sv_iald dX5_drop_87 hsh.l1 hsh.s1 (by omega) ?_
    rw [hmm, h580]
    refine sv_iconst dX5_drop_88 ?_
    refine sv_isub dX5_drop_89 ?_
    refine sv_iast dX5_drop_90 hsh.l1 hsh.s1 (by omega) (by first | omega | exact hin _ _ | decide | (simp [sv_u, sv_row]; omega) | (simp [sv_u, sv_row]; exact hin _ _) | exact hin1 _ _ | (simp [sv_u, sv_row]; exact hin1 _ _)) ?_
    refine sv_bipush dX5_drop_91 (by decide) ?_
    refine sv_iload_n (i := 3) dX5_drop_93 rfl rfl ?_
    refine sv_imul dX5_drop_94 ?_
    refine sv_istore dX5_drop_95 (by decide) rfl ?_
    refine sv_cast (l97 581 (29 * sp_slot m k) (by omega) (by omega)) rfl rfl rfl rfl rfl ?_
    rw [sv_u_row, hmm]
    refine congrArg (sv_row f1 (o + 1)) (funext fun j => ?_)
    unfold sp_up
    rw [if_neg (by omega)]
  have l21 : sp_slot m k ≠ -1 → ∀ (q : Nat) (i : Int) (f1 : sv_F), m 580 - i < (q : Int) → (0 ≤ i ∧ i ≤ m 580) → (sp_chg o f f1) → (f1 (o + 1) = sp_mdi m k i.toNat) → (md = 1) → sv_T X (sv_rm 5 0 0) MX5_drop (sv_Zm X 0 0 (sv_qi (fun a f' => (sp_slot m k = -1 ∧ a = -2 ∧ f' = f) ∨ (sp_slot m k ≠ -1 ∧ a = sp_bo (sp_drop m k md) k ∧ sp_chg o f f' ∧ f' (o + 1) = sp_drop m k md)) S r g)) 0 0 21 [some (sv_r o), some (sv_i k), some (sv_i md), some (sv_i (sp_slot m k)), some (sv_i i)] [] S (f1) r g := by
    intro hsl q
    induction q with
    | zero =>
      intro i f1 hk h1 hch hm1 hmd1
      exact absurd hk (by omega)
    | succ q ih =>
      intro i f1 hk h1 hch hm1 hmd1
      obtain ⟨hrp, hout⟩ := sp_mdi_rp (x := k) hw i.toNat (by omega)
      have hwi := hrp.wt hw
      have h580 : sp_mdi m k i.toNat 580 = m 580 := hrp.c
      have hrow : ∀ j, 0 ≤ j → sp_mdi m k i.toNat (29 * i + j) = m (29 * i + j) := fun j a => hout _ (by omega)
      refine sv_fr fun hin1 => ?_
      refine sv_iload dX5_drop_21 rfl ?_
      refine sv_aload_n (i := 0) dX5_drop_23 rfl rfl ?_
      refine sv_getR (kz := 0) flX5_7 dX5_drop_24 rfl rfl hsh.lt hsh.k hsh.r1 ?_
      refine sv_sipush dX5_drop_27 (by decide) ?_
      refine sv_iald dX5_drop_30 hsh.l1 hsh.s1 (by omega) ?_
      rw [hm1, h580]
      refine sv_icmp_ge (tgt := 79) dX5_drop_31 (by decide) (by first | omega | exact hin _ _ | decide | (simp [sv_u, sv_row]; omega) | (simp [sv_u, sv_row]; exact hin _ _) | exact hin1 _ _ | (simp [sv_u, sv_row]; exact hin1 _ _)) (by first | omega | exact hin _ _ | decide | (simp [sv_u, sv_row]; omega) | (simp [sv_u, sv_row]; exact hin _ _) | exact hin1 _ _ | (simp [sv_u, sv_row]; exact hin1 _ _)) (fun h_31 => ?_) (fun h_31 => ?_)
      · first
          | (exfalso; omega)
          | (have hie : i = m 580 := by omega
             subst hie
             exact sv_wk (h79 f1 _ hsl hch hm1 (by unfold sp_drop; rw [if_pos hmd1]) h580) (by simp [sv_sub, sv_ent, sv_lng]) rfl)
      · have hi1 : i < m 580 := by omega
        have hnm := hw.num h1.1 hi1
        have hfi := hw.frm h1.1 hi1
        have hsli := hw.slot h1.1 hi1
        have hbi := hw.bas h1.1 hi1
        refine sv_iload_n (i := 2) dX5_drop_34 rfl rfl ?_
        refine sv_if_eq (tgt := 79) dX5_drop_35 (by decide) (by first | omega | exact hin _ _ | decide | (simp [sv_u, sv_row]; omega) | (simp [sv_u, sv_row]; exact hin _ _) | exact hin1 _ _ | (simp [sv_u, sv_row]; exact hin1 _ _)) (fun h_35 => ?_) (fun h_35 => ?_)
        · first
            | (exfalso; omega)
            | (have hie : i = m 580 := by omega
               subst hie
               exact sv_wk (h79 f1 _ hsl hch hm1 (by unfold sp_drop; rw [if_pos hmd1]) h580) (by simp [sv_sub, sv_ent, sv_lng]) rfl)
        · refine sv_aload_n (i := 0) dX5_drop_38 rfl rfl ?_
          refine sv_iload dX5_drop_39 rfl ?_
          refine sv_iconst dX5_drop_41 ?_
          refine sv_vp0 (As := [_, _]) clX5_38 dX5_drop_42 ⟨_, rfl, rfl⟩ (by decide) rfl (Nat.le_of_ble_eq_true rfl) (by decide) (by decide) hsh.lt hsh.k (c_X5_of hsh hm1 _ _ (by omega)) ?_
          rw [hrow 3 (by omega)]
          refine sv_iload_n (i := 1) dX5_drop_45 rfl rfl ?_
          refine sv_icmp_ne (tgt := 73) dX5_drop_46 (by decide) (by first | omega | exact hin _ _ | decide | (simp [sv_u, sv_row]; omega) | (simp [sv_u, sv_row]; exact hin _ _) | exact hin1 _ _ | (simp [sv_u, sv_row]; exact hin1 _ _)) (by first | omega | exact hin _ _ | decide | (simp [sv_u, sv_row]; omega) | (simp [sv_u, sv_row]; exact hin _ _) | exact hin1 _ _ | (simp [sv_u, sv_row]; exact hin1 _ _)) (fun h_46 => ?_) (fun h_46 => ?_)
          · refine sv_iinc dX5_drop_73 rfl (by decide) rfl ?_
            refine sv_goto (tgt := 21) dX5_drop_76 (by decide) ?_
            have hs21 := sp_mdi_s (m := m) (x := k) h1.1
            first
              | exact sv_wk (ih (i + 1) f1 (by omega) (by omega) hch (by rw [hs21, if_neg (by rintro ⟨c1, c2⟩; first | (exact absurd c1 (by assumption)) | (rw [← hrp.R hw] at c2; exact absurd c2 (by assumption)))]; exact hm1) hmd1) (by simp [sv_sub, sv_ent, sv_lng]) rfl
              | exact sv_wk (ih (i + 1) f2 (by omega) (by omega) ⟨fun x hx => by rw [hf2.sq.1 x (by omega) (by omega) (by omega) (by omega) (by omega) (by omega) (by omega)]; exact hch.1 x hx, by rw [hf2.sq.t]; exact hch.2.1, by rw [hf2.sq.2.2]; exact hch.2.2.1, by rw [hf2.sq.p]; exact hch.2.2.2.1, by rw [hf2.sq.2.1]; exact hch.2.2.2.2⟩ (by rw [hs21, if_neg (by rintro ⟨c1, c2⟩; rw [← hrp.R hw] at c2; exact absurd c2 (by assumption)), hf2.m]; exact hm1) hmd1) (by simp [sv_sub, sv_ent, sv_lng]) rfl
              | (have hm4 : f4 (o + 1) = sp_mdi m k (i + 1).toNat := by
                   rw [hf4, sv_row_eq, hs21, if_pos ⟨by assumption, hRm⟩, hm3]
                   rw [hrow 1 (by omega)]
                   exact sp_ww_cg hw3
                 have n4 : ∀ x, x ≠ o + 1 → f4 x = f3 x := fun x a1 => by rw [hf4, sv_row_ne a1]
                 exact sv_wk (ih (i + 1) f4 (by omega) (by omega) ⟨fun x hx => by rw [n4 x (by omega), hq3.1 x (by omega) (by omega) (by omega) (by omega) (by omega) (by omega) (by omega)]; exact hch.1 x hx, by rw [n4 _ (by omega), hq3.t]; exact hch.2.1, by rw [n4 _ (by omega), hq3.2.2]; exact hch.2.2.1, by rw [n4 _ (by omega), hq3.p]; exact hch.2.2.2.1, by rw [n4 _ (by omega), hq3.2.1]; exact hch.2.2.2.2⟩ hm4 hmd1) (by simp [sv_sub, sv_ent, sv_lng]) rfl)
          · refine sv_aload_n (i := 0) dX5_drop_49 rfl rfl ?_
            refine sv_aload_n (i := 0) dX5_drop_50 rfl rfl ?_
            refine sv_iload dX5_drop_51 rfl ?_
            refine sv_iconst dX5_drop_53 ?_
            refine sv_vp0 (As := [_, _]) clX5_38 dX5_drop_54 ⟨_, rfl, rfl⟩ (by decide) rfl (Nat.le_of_ble_eq_true rfl) (by decide) (by decide) hsh.lt hsh.k (c_X5_of hsh hm1 _ _ (by omega)) ?_
            rw [hrow 0 (by omega), show 29 * i + 0 = 29 * i by omega]
            refine sv_vi0 (As := [_]) clX5_152 dX5_drop_57 ⟨_, rfl, rfl⟩ (by decide) rfl (Nat.le_of_ble_eq_true rfl) (by decide) (by decide) hsh.lt hsh.k (c_X5_reads hsh hm1 hwi _ (by omega)) (fun a f2 hf2 => ?_)
            obtain ⟨ha2, hf2⟩ := hf2
            subst ha2
            refine sv_bif_eq (tgt := 73) dX5_drop_60 (by decide) (fun h_60 => ?_) (fun h_60 => ?_)
            · refine sv_iinc dX5_drop_73 rfl (by decide) rfl ?_
              refine sv_goto (tgt := 21) dX5_drop_76 (by decide) ?_
              have hs21 := sp_mdi_s (m := m) (x := k) h1.1
              first
                | exact sv_wk (ih (i + 1) f1 (by omega) (by omega) hch (by rw [hs21, if_neg (by rintro ⟨c1, c2⟩; first | (exact absurd c1 (by assumption)) | (rw [← hrp.R hw] at c2; exact absurd c2 (by assumption)))]; exact hm1) hmd1) (by simp [sv_sub, sv_ent, sv_lng]) rfl
                | exact sv_wk (ih (i + 1) f2 (by omega) (by omega) ⟨fun x hx => by rw [hf2.sq.1 x (by omega) (by omega) (by omega) (by omega) (by omega) (by omega) (by omega)]; exact hch.1 x hx, by rw [hf2.sq.t]; exact hch.2.1, by rw [hf2.sq.2.2]; exact hch.2.2.1, by rw [hf2.sq.p]; exact hch.2.2.2.1, by rw [hf2.sq.2.1]; exact hch.2.2.2.2⟩ (by rw [hs21, if_neg (by rintro ⟨c1, c2⟩; rw [← hrp.R hw] at c2; exact absurd c2 (by assumption)), hf2.m]; exact hm1) hmd1) (by simp [sv_sub, sv_ent, sv_lng]) rfl
                | (have hm4 : f4 (o + 1) = sp_mdi m k (i + 1).toNat := by
                     rw [hf4, sv_row_eq, hs21, if_pos ⟨by assumption, hRm⟩, hm3]
                     rw [hrow 1 (by omega)]
                     exact sp_ww_cg hw3
                   have n4 : ∀ x, x ≠ o + 1 → f4 x = f3 x := fun x a1 => by rw [hf4, sv_row_ne a1]
                   exact sv_wk (ih (i + 1) f4 (by omega) (by omega) ⟨fun x hx => by rw [n4 x (by omega), hq3.1 x (by omega) (by omega) (by omega) (by omega) (by omega) (by omega) (by omega)]; exact hch.1 x hx, by rw [n4 _ (by omega), hq3.t]; exact hch.2.1, by rw [n4 _ (by omega), hq3.2.2]; exact hch.2.2.1, by rw [n4 _ (by omega), hq3.p]; exact hch.2.2.2.1, by rw [n4 _ (by omega), hq3.2.1]; exact hch.2.2.2.2⟩ hm4 hmd1) (by simp [sv_sub, sv_ent, sv_lng]) rfl)
            · have hRm : sp_R m (m (29 * i)) = -1 := by rw [← hrp.R hw]; assumption
              obtain ⟨z1, z2⟩ := hf2.2.2.1 (by assumption)
              rw [hrp.slot, hsli, hrow 1 (by omega)] at z1 z2
              refine sv_aload_n (i := 0) dX5_drop_63 rfl rfl ?_
              refine sv_vv0 (As := []) clX5_149 dX5_drop_64 ⟨_, rfl, rfl⟩ (by decide) rfl (Nat.le_of_ble_eq_true rfl) (by decide) (by decide) hsh.lt hsh.k (c_X5_setsAside hsh) (fun f3 hf3 => ?_)
              have hm3 : f3 (o + 1) = sp_mdi m k i.toNat := by rw [hf3, sv_row_ne (by omega), hf2.m]; exact hm1
              have hw3 : ∀ j, 0 ≤ j → j < sp_n m i → f3 (o + 6) j = sp_V m (m (29 * i)) j := fun j a1 a2 => by
                unfold sp_n at a2
                rw [hf3, sv_row_eq, if_pos (by omega), z2 j a1 a2]
                exact hrp.V hw hRm j a1 (by rw [hsli]; exact a2)
              have hq3 : sp_sq o f1 f3 := hf2.sq.trans (by rw [hf3]; exact ⟨fun x a1 a2 a3 a4 a5 a6 a7 => by rw [sv_row_ne a5], by simp [sv_row], by simp [sv_row]⟩)
              refine sv_aload_n (i := 0) dX5_drop_67 rfl rfl ?_
              refine sv_iload dX5_drop_68 rfl ?_
              refine sv_vv0 (As := [_]) clX5_164 dX5_drop_70 ⟨_, rfl, rfl⟩ (by decide) rfl (Nat.le_of_ble_eq_true rfl) (by decide) (by decide) hsh.lt hsh.k (c_X5_writesWhole hsh _ (by omega) (by rw [hm3]; rw [hrow 1 (by omega)]; exact hfi)) (fun f4 hf4 => ?_)
              refine sv_iinc dX5_drop_73 rfl (by decide) rfl ?_
              refine sv_goto (tgt := 21) dX5_drop_76 (by decide) ?_
              have hs21 := sp_mdi_s (m := m) (x := k) h1.1
              first
                | exact sv_wk (ih (i + 1) f1 (by omega) (by omega) hch (by rw [hs21, if_neg (by rintro ⟨c1, c2⟩; first | (exact absurd c1 (by assumption)) | (rw [← hrp.R hw] at c2; exact absurd c2 (by assumption)))]; exact hm1) hmd1) (by simp [sv_sub, sv_ent, sv_lng]) rfl
                | exact sv_wk (ih (i + 1) f2 (by omega) (by omega) ⟨fun x hx => by rw [hf2.sq.1 x (by omega) (by omega) (by omega) (by omega) (by omega) (by omega) (by omega)]; exact hch.1 x hx, by rw [hf2.sq.t]; exact hch.2.1, by rw [hf2.sq.2.2]; exact hch.2.2.1, by rw [hf2.sq.p]; exact hch.2.2.2.1, by rw [hf2.sq.2.1]; exact hch.2.2.2.2⟩ (by rw [hs21, if_neg (by rintro ⟨c1, c2⟩; rw [← hrp.R hw] at c2; exact absurd c2 (by assumption)), hf2.m]; exact hm1) hmd1) (by simp [sv_sub, sv_ent, sv_lng]) rfl
                | (have hm4 : f4 (o + 1) = sp_mdi m k (i + 1).toNat := by
                     rw [hf4, sv_row_eq, hs21, if_pos ⟨by assumption, hRm⟩, hm3]
                     rw [hrow 1 (by omega)]
                     exact sp_ww_cg hw3
                   have n4 : ∀ x, x ≠ o + 1 → f4 x = f3 x := fun x a1 => by rw [hf4, sv_row_ne a1]
                   exact sv_wk (ih (i + 1) f4 (by omega) (by omega) ⟨fun x hx => by rw [n4 x (by omega), hq3.1 x (by omega) (by omega) (by omega) (by omega) (by omega) (by omega) (by omega)]; exact hch.1 x hx, by rw [n4 _ (by omega), hq3.t]; exact hch.2.1, by rw [n4 _ (by omega), hq3.2.2]; exact hch.2.2.1, by rw [n4 _ (by omega), hq3.p]; exact hch.2.2.2.1, by rw [n4 _ (by omega), hq3.2.1]; exact hch.2.2.2.2⟩ hm4 hmd1) (by simp [sv_sub, sv_ent, sv_lng]) rfl)
  refine sv_aload_n (i := 0) dX5_drop_0 rfl rfl ?_
  refine sv_iload_n (i := 1) dX5_drop_1 rfl rfl ?_
  refine sv_vp0 (As := [_]) clX5_59 dX5_drop_2 ⟨_, rfl, rfl⟩ (by decide) rfl (Nat.le_of_ble_eq_true rfl) (by decide) (by decide) hsh.lt hsh.k (c_X5_slotOf hsh (by first | exact hm | exact hm1 | exact hm2 | rfl | (simp only [sv_u_ne, sv_row_ne, sv_row_eq, ne_eq, Nat.add_left_cancel_iff, Nat.reduceEqDiff, not_false_eq_true, Nat.add_eq_left, reduceCtorEq, OfNat.ofNat_ne_zero, OfNat.one_ne_ofNat, OfNat.ofNat_ne_one, one_ne_zero, Nat.succ_ne_self]; first | exact hm | rfl) | (simp [sv_u_ne, sv_row_ne, sv_row_eq]; done) | (simp [sv_u_ne, sv_row_ne, sv_row_eq]; exact hm)) _ (by omega) hw.c) ?_
  have hst := sp_slot_spec m k
  have hcc := hw.c
  have hcm := hw.cm
  refine sv_istore_n (i := 3) dX5_drop_5 rfl (by decide) rfl ?_
  refine sv_iload_n (i := 3) dX5_drop_6 rfl rfl ?_
  refine sv_iconst dX5_drop_7 ?_
  refine sv_icmp_ne (tgt := 14) dX5_drop_8 (by decide) (by first | omega | exact hin _ _ | decide | (simp [sv_u, sv_row]; omega) | (simp [sv_u, sv_row]; exact hin _ _) | exact hin1 _ _ | (simp [sv_u, sv_row]; exact hin1 _ _)) (by first | omega | exact hin _ _ | decide | (simp [sv_u, sv_row]; omega) | (simp [sv_u, sv_row]; exact hin _ _) | exact hin1 _ _ | (simp [sv_u, sv_row]; exact hin1 _ _)) (fun h_8 => ?_) (fun h_8 => ?_)
  · refine sv_aload_n (i := 0) dX5_drop_14 rfl rfl ?_
    refine sv_vv0 (As := []) clX5_137 dX5_drop_15 ⟨_, rfl, rfl⟩ (by decide) rfl (Nat.le_of_ble_eq_true rfl) (by decide) (by decide) hsh.lt hsh.k (c_X5_keeps hsh hu) (fun f1 hf1 => ?_)
    have k1 : ∀ x, x ≠ o → x ≠ o + 2 → f1 x = f x := fun x a1 a2 => by rw [hf1, sv_u_ne a1, sv_row_ne a2]
    have k2 : ∀ j, j ≠ 2 → f1 o j = f o j := fun j a1 => by rw [hf1]; simp [sv_u, sv_row, a1]
    have k3 : f1 (o + 2) = sp_kpast (f (o + 1)) (f (o + 2)) (f o 2) := by rw [hf1, sv_u_ne (by omega), sv_row_eq]; rfl
    have k4 : f1 o 2 = sp_ku (f o 2) := by rw [hf1]; simp [sv_u]; rfl
    clear hf1
    have hm1 : f1 (o + 1) = m := by rw [k1 (o + 1) (by omega) (by omega)]; exact hm
    have hch : sp_chg o f f1 := ⟨fun x hx => k1 x (by omega) (by omega), k1 _ (by omega) (by omega), k2 10 (by omega), k3, k4⟩
    have hsl : sp_slot m k ≠ -1 := by assumption
    obtain ⟨s0, s1, s2⟩ := sp_slot_in hsl
    refine sv_iconst dX5_drop_18 ?_
    refine sv_istore dX5_drop_19 (by decide) rfl ?_
    rcases hmd with hmd0 | hmd1
    · subst hmd0
      refine sv_iload (i := 4) dX5_drop_21 rfl ?_
      refine sv_aload_n (i := 0) dX5_drop_23 rfl rfl ?_
      refine sv_getR (kz := 0) flX5_7 dX5_drop_24 rfl rfl hsh.lt hsh.k hsh.r1 ?_
      refine sv_sipush dX5_drop_27 (by decide) ?_
      refine sv_iald dX5_drop_30 hsh.l1 hsh.s1 (by omega) ?_
      rw [hm1]
      refine sv_icmp_ge (tgt := 79) dX5_drop_31 (by decide) (by omega) (by omega) (fun h_31 => ?_) (fun h_31 => ?_)
      · exfalso; omega
      · refine sv_iload_n (i := 2) dX5_drop_34 rfl rfl ?_
        refine sv_if_eq (tgt := 79) dX5_drop_35 (by decide) (by omega) (fun h_35 => ?_) (fun h_35 => absurd rfl h_35)
        exact sv_wk (h79 f1 m hsl hch hm1 (by unfold sp_drop; rw [if_neg (by omega)]) rfl) (by simp [sv_sub, sv_ent, sv_lng]) rfl
    · exact sv_wk (l21 hsl 21 0 f1 (by omega) (by omega) hch hm1 hmd1) (by simp [sv_sub, sv_ent, sv_lng]) rfl
  · refine sv_bipush dX5_drop_11 (by decide) ?_
    refine sv_ireturn dX5_drop_13 rfl ?_
    exact ⟨_, rfl, rfl, rfl, rfl, Or.inl ⟨by assumption, rfl, rfl⟩⟩
