set_option maxRecDepth 100000 in
set_option maxHeartbeats 4000000 in
theorem c_X5_nearest {X : sv_X} {S : sv_S} {f : sv_F} {r : sv_R} {g : sv_G} {o : Nat} {m : Int → Int} (hsh : sv_M5 S r o) (hm : f (o + 1) = m) (hw : sp_wt m) (hg : sp_wg m) : sv_C X 4 MX5_nearest 0 0 [sv_r o] S f r g (sv_qi (fun a f' => a = sp_nst m ∧ sp_sq o f f') S r g) := by
  refine sv_met (by decide) (by simp [lg_sl, sv_cv, va_rf, Value.category]) ?_
  refine sv_fr fun hin => ?_
  have hcc := hw.c
  have hcm := hw.cm
  have hgf := hg.f
  have lp : ∀ (k : Nat) (bs : Int) (le : Int) (i : Int) (f1 : sv_F), m 580 - i < (k : Int) → (0 ≤ i ∧ i ≤ m 580) → (bs = (if (sp_am (fun s => m (29 * s + 1) ≤ m 582 ∧ sp_R m (m (29 * s)) = -1) (fun s => sp_gd m (m (29 * s))) 13 i.toNat).1 = -1 then -1 else m (29 * (sp_am (fun s => m (29 * s + 1) ≤ m 582 ∧ sp_R m (m (29 * s)) = -1) (fun s => sp_gd m (m (29 * s))) 13 i.toNat).1))) → ((sp_am (fun s => m (29 * s + 1) ≤ m 582 ∧ sp_R m (m (29 * s)) = -1) (fun s => sp_gd m (m (29 * s))) 13 i.toNat).1 ≠ -1 → le = (sp_am (fun s => m (29 * s + 1) ≤ m 582 ∧ sp_R m (m (29 * s)) = -1) (fun s => sp_gd m (m (29 * s))) 13 i.toNat).2) → (0 ≤ le ∧ le ≤ 12) → (sp_sq o f f1) → (∀ j, 0 ≤ j → j < 12 → f1 (o + 6) j = sp_gv m j) → sv_T X (sv_rm 4 0 0) MX5_nearest (sv_Zm X 0 0 (sv_qi (fun a f' => a = sp_nst m ∧ sp_sq o f f') S r g)) 0 0 14 [some (sv_r o), some (sv_i bs), some (sv_i le), some (sv_i i), none, none] [] S (f1) r g := by
    intro k
    induction k with
    | zero =>
      intro bs le i f1 hk h1 hb hl hle hsq hwv
      exact absurd hk (by omega)
    | succ k ih =>
      intro bs le i f1 hk h1 hb hl hle hsq hwv
      refine sv_fr fun hin1 => ?_
      have hm1 : f1 (o + 1) = m := hsq.m.trans hm
      have h290 : m (29 * i + 0) = m (29 * i) := by rw [show 29 * i + 0 = 29 * i by omega]
      have hbs : -1 ≤ bs ∧ bs ≤ 99 := by
        have hsp := sp_am_spec (p := (fun s => m (29 * s + 1) ≤ m 582 ∧ sp_R m (m (29 * s)) = -1)) (d := (fun s => sp_gd m (m (29 * s)))) (b := 13) i.toNat
        rw [hb]
        by_cases hq : (sp_am (fun s => m (29 * s + 1) ≤ m 582 ∧ sp_R m (m (29 * s)) = -1) (fun s => sp_gd m (m (29 * s))) 13 i.toNat).1 = -1
        · rw [if_pos hq]; omega
        · rw [if_neg hq]
          have := hw.num (m := m) (s := (sp_am (fun s => m (29 * s + 1) ≤ m 582 ∧ sp_R m (m (29 * s)) = -1) (fun s => sp_gd m (m (29 * s))) 13 i.toNat).1) (by omega) (by omega)
          omega
      have hbn : bs = -1 ↔ (sp_am (fun s => m (29 * s + 1) ≤ m 582 ∧ sp_R m (m (29 * s)) = -1) (fun s => sp_gd m (m (29 * s))) 13 i.toNat).1 = -1 := by
        rw [hb]
        by_cases hq : (sp_am (fun s => m (29 * s + 1) ≤ m 582 ∧ sp_R m (m (29 * s)) = -1) (fun s => sp_gd m (m (29 * s))) 13 i.toNat).1 = -1
        · simp [hq]
        · have hsp := sp_am_spec (p := (fun s => m (29 * s + 1) ≤ m 582 ∧ sp_R m (m (29 * s)) = -1)) (d := (fun s => sp_gd m (m (29 * s)))) (b := 13) i.toNat
          have := hw.num (m := m) (s := (sp_am (fun s => m (29 * s + 1) ≤ m 582 ∧ sp_R m (m (29 * s)) = -1) (fun s => sp_gd m (m (29 * s))) 13 i.toNat).1) (by omega) (by omega)
          rw [if_neg hq]
          omega
      refine sv_iload_n (i := 3) dX5_nearest_14 rfl rfl ?_
      refine sv_aload_n (i := 0) dX5_nearest_15 rfl rfl ?_
      refine sv_getR (kz := 0) flX5_7 dX5_nearest_16 rfl rfl hsh.lt hsh.k hsh.r1 ?_
      refine sv_sipush dX5_nearest_19 (by decide) ?_
      refine sv_iald dX5_nearest_22 hsh.l1 hsh.s1 (by omega) ?_
      rw [hm1]
      refine sv_icmp_ge (tgt := 133) dX5_nearest_23 (by decide) (by first | omega | exact hin _ _ | decide | (simp [sv_u, sv_row]; omega) | (simp [sv_u, sv_row]; exact hin _ _) | exact hin1 _ _ | (simp [sv_u, sv_row]; exact hin1 _ _)) (by first | omega | exact hin _ _ | decide | (simp [sv_u, sv_row]; omega) | (simp [sv_u, sv_row]; exact hin _ _) | exact hin1 _ _ | (simp [sv_u, sv_row]; exact hin1 _ _)) (fun h_23 => ?_) (fun h_23 => ?_)
      · refine sv_iload_n (i := 1) dX5_nearest_133 rfl rfl ?_
        refine sv_ireturn dX5_nearest_134 rfl ?_
        refine ⟨_, rfl, rfl, rfl, rfl, ?_, hsq⟩
        rw [hb, show i = m 580 by omega]
        rfl
      · have hnm := hw.num h1.1 (by omega : i < m 580)
        have hfi := hw.frm h1.1 (by omega : i < m 580)
        have hsli := hw.slot h1.1 (by omega : i < m 580)
        have hgd := sp_gd_in hg.f (m (29 * i))
        refine sv_aload_n (i := 0) dX5_nearest_26 rfl rfl ?_
        refine sv_iload_n (i := 3) dX5_nearest_27 rfl rfl ?_
        refine sv_iconst dX5_nearest_28 ?_
        refine sv_vp0 (As := [_, _]) clX5_38 dX5_nearest_29 ⟨_, rfl, rfl⟩ (by decide) rfl (Nat.le_of_ble_eq_true rfl) (by decide) (by decide) hsh.lt hsh.k (c_X5_of hsh (by first | exact hm | exact hm1 | exact hm2 | rfl | (simp only [sv_u_ne, sv_row_ne, sv_row_eq, ne_eq, Nat.add_left_cancel_iff, Nat.reduceEqDiff, not_false_eq_true, Nat.add_eq_left, reduceCtorEq, OfNat.ofNat_ne_zero, OfNat.one_ne_ofNat, OfNat.ofNat_ne_one, one_ne_zero, Nat.succ_ne_self]; first | exact hm | rfl) | (simp [sv_u_ne, sv_row_ne, sv_row_eq]; done) | (simp [sv_u_ne, sv_row_ne, sv_row_eq]; exact hm)) _ _ (by omega)) ?_
        refine sv_aload_n (i := 0) dX5_nearest_32 rfl rfl ?_
        refine sv_getR (kz := 0) flX5_7 dX5_nearest_33 rfl rfl hsh.lt hsh.k hsh.r1 ?_
        refine sv_sipush dX5_nearest_36 (by decide) ?_
        refine sv_iald dX5_nearest_39 hsh.l1 hsh.s1 (by omega) ?_
        rw [hm1]
        refine sv_icmp_gt (tgt := 127) dX5_nearest_40 (by decide) (by first | omega | exact hin _ _ | decide | (simp [sv_u, sv_row]; omega) | (simp [sv_u, sv_row]; exact hin _ _) | exact hin1 _ _ | (simp [sv_u, sv_row]; exact hin1 _ _)) (by first | omega | exact hin _ _ | decide | (simp [sv_u, sv_row]; omega) | (simp [sv_u, sv_row]; exact hin _ _) | exact hin1 _ _ | (simp [sv_u, sv_row]; exact hin1 _ _)) (fun h_40 => ?_) (fun h_40 => ?_)
        · refine sv_iinc dX5_nearest_127 rfl (by decide) rfl ?_
          refine sv_goto (tgt := 14) dX5_nearest_130 (by decide) ?_
          have hs := sp_am_s (p := (fun s => m (29 * s + 1) ≤ m 582 ∧ sp_R m (m (29 * s)) = -1)) (d := (fun s => sp_gd m (m (29 * s)))) (b := 13) h1.1
          have hsp := sp_am_spec (p := (fun s => m (29 * s + 1) ≤ m 582 ∧ sp_R m (m (29 * s)) = -1)) (d := (fun s => sp_gd m (m (29 * s)))) (b := 13) i.toNat
          first
            | (exfalso; omega)
            | (have hA2' : sp_am (fun s => m (29 * s + 1) ≤ m 582 ∧ sp_R m (m (29 * s)) = -1) (fun s => sp_gd m (m (29 * s))) 13 (i + 1).toNat = (sp_am (fun s => m (29 * s + 1) ≤ m 582 ∧ sp_R m (m (29 * s)) = -1) (fun s => sp_gd m (m (29 * s))) 13 i.toNat) := by rw [hs, if_neg (by rintro ⟨⟨c1, c2⟩, c3⟩; first | omega | exact absurd c2 (by assumption))]
               first
                 | exact sv_wk (ih bs le (i + 1) f1 (by omega) (by omega) (by rw [hA2']; exact hb) (by rw [hA2']; exact hl) hle hsq hwv) (by simp [sv_sub, sv_ent, sv_lng]) rfl
                 | exact sv_wk (ih bs le (i + 1) f3 (by omega) (by omega) (by rw [hA2']; exact hb) (by rw [hA2']; exact hl) hle (hsq.trans hf3.sq) (fun j a1 a2 => by rw [hf3.w]; exact hwv j a1 a2)) (by simp [sv_sub, sv_ent, sv_lng]) rfl
                 | exact sv_wk (ih bs le (i + 1) f4 (by omega) (by omega) (by rw [hA2']; exact hb) (by rw [hA2']; exact hl) hle q5 q7) (by simp [sv_sub, sv_ent, sv_lng]) rfl)
            | (have hA2' : sp_am (fun s => m (29 * s + 1) ≤ m 582 ∧ sp_R m (m (29 * s)) = -1) (fun s => sp_gd m (m (29 * s))) 13 (i + 1).toNat = (i, sp_gd m (m (29 * i))) := by rw [hs, if_pos (by refine ⟨⟨by omega, by assumption⟩, ?_⟩; show sp_gd m (m (29 * i)) < _; omega)]
               exact sv_wk (ih (m (29 * i + 0)) (sp_gd m (m (29 * i))) (i + 1) f4 (by omega) (by omega) (by rw [hA2', if_neg (by show ¬ i = -1; omega)]; exact h290) (fun _ => by rw [hA2']) (by omega) q5 q7) (by simp [sv_sub, sv_ent, sv_lng]) rfl)
        · refine sv_aload_n (i := 0) dX5_nearest_43 rfl rfl ?_
          refine sv_aload_n (i := 0) dX5_nearest_44 rfl rfl ?_
          refine sv_iload_n (i := 3) dX5_nearest_45 rfl rfl ?_
          refine sv_iconst dX5_nearest_46 ?_
          refine sv_vp0 (As := [_, _]) clX5_38 dX5_nearest_47 ⟨_, rfl, rfl⟩ (by decide) rfl (Nat.le_of_ble_eq_true rfl) (by decide) (by decide) hsh.lt hsh.k (c_X5_of hsh hm1 _ _ (by omega)) ?_
          rw [h290]
          refine sv_vi0 (As := [_]) clX5_152 dX5_nearest_50 ⟨_, rfl, rfl⟩ (by decide) rfl (Nat.le_of_ble_eq_true rfl) (by decide) (by decide) hsh.lt hsh.k (c_X5_reads hsh hm1 hw _ (by omega)) (fun a f3 hf3 => ?_)
          obtain ⟨ha3, hf3⟩ := hf3
          subst ha3
          refine sv_bif_eq (tgt := 127) dX5_nearest_53 (by decide) (fun h_53 => ?_) (fun h_53 => ?_)
          · refine sv_iinc dX5_nearest_127 rfl (by decide) rfl ?_
            refine sv_goto (tgt := 14) dX5_nearest_130 (by decide) ?_
            have hs := sp_am_s (p := (fun s => m (29 * s + 1) ≤ m 582 ∧ sp_R m (m (29 * s)) = -1)) (d := (fun s => sp_gd m (m (29 * s)))) (b := 13) h1.1
            have hsp := sp_am_spec (p := (fun s => m (29 * s + 1) ≤ m 582 ∧ sp_R m (m (29 * s)) = -1)) (d := (fun s => sp_gd m (m (29 * s)))) (b := 13) i.toNat
            first
              | (exfalso; omega)
              | (have hA2' : sp_am (fun s => m (29 * s + 1) ≤ m 582 ∧ sp_R m (m (29 * s)) = -1) (fun s => sp_gd m (m (29 * s))) 13 (i + 1).toNat = (sp_am (fun s => m (29 * s + 1) ≤ m 582 ∧ sp_R m (m (29 * s)) = -1) (fun s => sp_gd m (m (29 * s))) 13 i.toNat) := by rw [hs, if_neg (by rintro ⟨⟨c1, c2⟩, c3⟩; first | omega | exact absurd c2 (by assumption))]
                 first
                   | exact sv_wk (ih bs le (i + 1) f1 (by omega) (by omega) (by rw [hA2']; exact hb) (by rw [hA2']; exact hl) hle hsq hwv) (by simp [sv_sub, sv_ent, sv_lng]) rfl
                   | exact sv_wk (ih bs le (i + 1) f3 (by omega) (by omega) (by rw [hA2']; exact hb) (by rw [hA2']; exact hl) hle (hsq.trans hf3.sq) (fun j a1 a2 => by rw [hf3.w]; exact hwv j a1 a2)) (by simp [sv_sub, sv_ent, sv_lng]) rfl
                   | exact sv_wk (ih bs le (i + 1) f4 (by omega) (by omega) (by rw [hA2']; exact hb) (by rw [hA2']; exact hl) hle q5 q7) (by simp [sv_sub, sv_ent, sv_lng]) rfl)
              | (have hA2' : sp_am (fun s => m (29 * s + 1) ≤ m 582 ∧ sp_R m (m (29 * s)) = -1) (fun s => sp_gd m (m (29 * s))) 13 (i + 1).toNat = (i, sp_gd m (m (29 * i))) := by rw [hs, if_pos (by refine ⟨⟨by omega, by assumption⟩, ?_⟩; show sp_gd m (m (29 * i)) < _; omega)]
                 exact sv_wk (ih (m (29 * i + 0)) (sp_gd m (m (29 * i))) (i + 1) f4 (by omega) (by omega) (by rw [hA2', if_neg (by show ¬ i = -1; omega)]; exact h290) (fun _ => by rw [hA2']) (by omega) q5 q7) (by simp [sv_sub, sv_ent, sv_lng]) rfl)
          · obtain ⟨z1, z2⟩ := hf3.2.2.1 h_53
            rw [hsli] at z1 z2
            have hokv := sp_V_ok' hw h_53
            rw [hsli] at hokv
            have hok3 : sp_ok (f3 (o + 3)) (6 + 2 * f3 o 4) := fun j a1 a2 => by
              rw [z1] at a2
              rw [z2 j a1 a2]
              exact hokv j a1 a2
            have hfm3 : 1 ≤ f3 o 4 ∧ f3 o 4 ≤ 3 := by rw [z1]; exact hfi
            refine sv_aload_n (i := 0) dX5_nearest_56 rfl rfl ?_
            refine sv_aload_n (i := 0) dX5_nearest_57 rfl rfl ?_
            refine sv_getR (kz := 0) flX5_7 dX5_nearest_58 rfl rfl hsh.lt hsh.k hsh.r1 ?_
            refine sv_sipush dX5_nearest_61 (by decide) ?_
            refine sv_iald dX5_nearest_64 hsh.l1 hsh.s1 (by omega) ?_
            rw [show f3 (o + 1) 582 = m 582 by rw [hf3.m, hm1]]
            refine sv_vv0 (As := [_]) clX5_70 dX5_nearest_65 ⟨_, rfl, rfl⟩ (by decide) rfl (Nat.le_of_ble_eq_true rfl) (by decide) (by decide) hsh.lt hsh.k (c_X5_raisesTo hsh _ (by omega) (by omega) hfm3 (fun _ => hok3)) (fun f4 hf4 => ?_)
            have q5 : sp_sq o f f4 := (hsq.trans hf3.sq).trans (by subst hf4; exact ⟨fun x a1 a2 a3 a4 a5 a6 a7 => by rw [sv_u_ne a1, sv_row_ne a2], by simp [sv_u, sv_row], by simp [sv_u, sv_row]⟩)
            have hm5 : f4 (o + 1) = m := q5.m.trans hm
            have q4 : f4 o 4 = m 582 := by subst hf4; simp [sv_u]; rw [z1]; omega
            have q6 : ∀ j, 0 ≤ j → j < 6 + 2 * m 582 → f4 (o + 3) j = sp_rz (sp_V m (m (29 * i))) (m (29 * i + 1)) (m 582) j := fun j a1 a2 => by
              subst hf4
              rw [sv_u_ne (by omega), sv_row_eq, z1]
              exact sp_rz_congr hfi.1 (by omega) hg.f.2 z2 j a1 a2
            have q7 : ∀ j, 0 ≤ j → j < 12 → f4 (o + 6) j = sp_gv m j := fun j a1 a2 => by
              subst hf4
              rw [sv_u_ne (by omega), sv_row_ne (by omega), hf3.w]
              exact hwv j a1 a2
            have hfin : sp_dn (f4 (o + 3)) (f4 (o + 6)) (6 + 2 * m 582).toNat = sp_gd m (m (29 * i)) := by
              unfold sp_gd
              rw [hsli]
              exact sp_dn_congr q6 (fun j a1 a2 => q7 j a1 (by omega))
            refine sv_aload_n (i := 0) dX5_nearest_68 rfl rfl ?_
            refine sv_aload_n (i := 0) dX5_nearest_69 rfl rfl ?_
            refine sv_getI (kz := 4) flX5_46 dX5_nearest_70 rfl rfl hsh.lt hsh.k ?_
            rw [q4]
            refine sv_sp0 (As := [_]) clX5_52 dX5_nearest_73 rfl (Nat.le_of_ble_eq_true rfl) (by decide) (by decide) (c_X5_valuesOf _) ?_
            refine sv_vp0 (As := [_]) clX5_155 dX5_nearest_76 ⟨_, rfl, rfl⟩ (by decide) rfl (Nat.le_of_ble_eq_true rfl) (by decide) (by decide) hsh.lt hsh.k (c_X5_differences hsh _ (by omega)) ?_
            rw [hfin]
            refine sv_istore dX5_nearest_79 (by decide) rfl ?_
            refine sv_iload_n (i := 1) dX5_nearest_81 rfl rfl ?_
            refine sv_iconst dX5_nearest_82 ?_
            refine sv_icmp_eq (tgt := 92) dX5_nearest_83 (by decide) (by first | omega | exact hin _ _ | decide | (simp [sv_u, sv_row]; omega) | (simp [sv_u, sv_row]; exact hin _ _) | exact hin1 _ _ | (simp [sv_u, sv_row]; exact hin1 _ _)) (by first | omega | exact hin _ _ | decide | (simp [sv_u, sv_row]; omega) | (simp [sv_u, sv_row]; exact hin _ _) | exact hin1 _ _ | (simp [sv_u, sv_row]; exact hin1 _ _)) (fun h_83 => ?_) (fun h_83 => ?_)
            · refine sv_iconst dX5_nearest_92 ?_
              refine sv_goto (tgt := 97) dX5_nearest_93 (by decide) ?_
              refine sv_istore dX5_nearest_97 (by decide) rfl ?_
              refine sv_iload dX5_nearest_99 rfl ?_
              refine sv_if_eq (tgt := 113) dX5_nearest_101 (by decide) (by first | omega | exact hin _ _ | decide | (simp [sv_u, sv_row]; omega) | (simp [sv_u, sv_row]; exact hin _ _) | exact hin1 _ _ | (simp [sv_u, sv_row]; exact hin1 _ _)) (fun h_101 => ?_) (fun h_101 => ?_)
              · refine sv_iload_n (i := 1) dX5_nearest_113 rfl rfl ?_
                refine sv_istore_n (i := 1) dX5_nearest_114 rfl (by decide) rfl ?_
                refine sv_iload dX5_nearest_115 rfl ?_
                refine sv_if_eq (tgt := 125) dX5_nearest_117 (by decide) (by first | omega | exact hin _ _ | decide | (simp [sv_u, sv_row]; omega) | (simp [sv_u, sv_row]; exact hin _ _) | exact hin1 _ _ | (simp [sv_u, sv_row]; exact hin1 _ _)) (fun h_117 => ?_) (fun h_117 => ?_)
                · refine sv_iload_n (i := 2) dX5_nearest_125 rfl rfl ?_
                  refine sv_istore_n (i := 2) dX5_nearest_126 rfl (by decide) rfl ?_
                  refine sv_iinc dX5_nearest_127 rfl (by decide) rfl ?_
                  refine sv_goto (tgt := 14) dX5_nearest_130 (by decide) ?_
                  have hs := sp_am_s (p := (fun s => m (29 * s + 1) ≤ m 582 ∧ sp_R m (m (29 * s)) = -1)) (d := (fun s => sp_gd m (m (29 * s)))) (b := 13) h1.1
                  have hsp := sp_am_spec (p := (fun s => m (29 * s + 1) ≤ m 582 ∧ sp_R m (m (29 * s)) = -1)) (d := (fun s => sp_gd m (m (29 * s)))) (b := 13) i.toNat
                  first
                    | (exfalso; omega)
                    | (have hA2' : sp_am (fun s => m (29 * s + 1) ≤ m 582 ∧ sp_R m (m (29 * s)) = -1) (fun s => sp_gd m (m (29 * s))) 13 (i + 1).toNat = (sp_am (fun s => m (29 * s + 1) ≤ m 582 ∧ sp_R m (m (29 * s)) = -1) (fun s => sp_gd m (m (29 * s))) 13 i.toNat) := by rw [hs, if_neg (by rintro ⟨⟨c1, c2⟩, c3⟩; first | omega | exact absurd c2 (by assumption))]
                       first
                         | exact sv_wk (ih bs le (i + 1) f1 (by omega) (by omega) (by rw [hA2']; exact hb) (by rw [hA2']; exact hl) hle hsq hwv) (by simp [sv_sub, sv_ent, sv_lng]) rfl
                         | exact sv_wk (ih bs le (i + 1) f3 (by omega) (by omega) (by rw [hA2']; exact hb) (by rw [hA2']; exact hl) hle (hsq.trans hf3.sq) (fun j a1 a2 => by rw [hf3.w]; exact hwv j a1 a2)) (by simp [sv_sub, sv_ent, sv_lng]) rfl
                         | exact sv_wk (ih bs le (i + 1) f4 (by omega) (by omega) (by rw [hA2']; exact hb) (by rw [hA2']; exact hl) hle q5 q7) (by simp [sv_sub, sv_ent, sv_lng]) rfl)
                    | (have hA2' : sp_am (fun s => m (29 * s + 1) ≤ m 582 ∧ sp_R m (m (29 * s)) = -1) (fun s => sp_gd m (m (29 * s))) 13 (i + 1).toNat = (i, sp_gd m (m (29 * i))) := by rw [hs, if_pos (by refine ⟨⟨by omega, by assumption⟩, ?_⟩; show sp_gd m (m (29 * i)) < _; omega)]
                       exact sv_wk (ih (m (29 * i + 0)) (sp_gd m (m (29 * i))) (i + 1) f4 (by omega) (by omega) (by rw [hA2', if_neg (by show ¬ i = -1; omega)]; exact h290) (fun _ => by rw [hA2']) (by omega) q5 q7) (by simp [sv_sub, sv_ent, sv_lng]) rfl)
                · refine sv_iload dX5_nearest_120 rfl ?_
                  refine sv_goto (tgt := 126) dX5_nearest_122 (by decide) ?_
                  refine sv_istore_n (i := 2) dX5_nearest_126 rfl (by decide) rfl ?_
                  refine sv_iinc dX5_nearest_127 rfl (by decide) rfl ?_
                  refine sv_goto (tgt := 14) dX5_nearest_130 (by decide) ?_
                  have hs := sp_am_s (p := (fun s => m (29 * s + 1) ≤ m 582 ∧ sp_R m (m (29 * s)) = -1)) (d := (fun s => sp_gd m (m (29 * s)))) (b := 13) h1.1
                  have hsp := sp_am_spec (p := (fun s => m (29 * s + 1) ≤ m 582 ∧ sp_R m (m (29 * s)) = -1)) (d := (fun s => sp_gd m (m (29 * s)))) (b := 13) i.toNat
                  first
                    | (exfalso; omega)
                    | (have hA2' : sp_am (fun s => m (29 * s + 1) ≤ m 582 ∧ sp_R m (m (29 * s)) = -1) (fun s => sp_gd m (m (29 * s))) 13 (i + 1).toNat = (sp_am (fun s => m (29 * s + 1) ≤ m 582 ∧ sp_R m (m (29 * s)) = -1) (fun s => sp_gd m (m (29 * s))) 13 i.toNat) := by rw [hs, if_neg (by rintro ⟨⟨c1, c2⟩, c3⟩; first | omega | exact absurd c2 (by assumption))]
                       first
                         | exact sv_wk (ih bs le (i + 1) f1 (by omega) (by omega) (by rw [hA2']; exact hb) (by rw [hA2']; exact hl) hle hsq hwv) (by simp [sv_sub, sv_ent, sv_lng]) rfl
                         | exact sv_wk (ih bs le (i + 1) f3 (by omega) (by omega) (by rw [hA2']; exact hb) (by rw [hA2']; exact hl) hle (hsq.trans hf3.sq) (fun j a1 a2 => by rw [hf3.w]; exact hwv j a1 a2)) (by simp [sv_sub, sv_ent, sv_lng]) rfl
                         | exact sv_wk (ih bs le (i + 1) f4 (by omega) (by omega) (by rw [hA2']; exact hb) (by rw [hA2']; exact hl) hle q5 q7) (by simp [sv_sub, sv_ent, sv_lng]) rfl)
                    | (have hA2' : sp_am (fun s => m (29 * s + 1) ≤ m 582 ∧ sp_R m (m (29 * s)) = -1) (fun s => sp_gd m (m (29 * s))) 13 (i + 1).toNat = (i, sp_gd m (m (29 * i))) := by rw [hs, if_pos (by refine ⟨⟨by omega, by assumption⟩, ?_⟩; show sp_gd m (m (29 * i)) < _; omega)]
                       exact sv_wk (ih (m (29 * i + 0)) (sp_gd m (m (29 * i))) (i + 1) f4 (by omega) (by omega) (by rw [hA2', if_neg (by show ¬ i = -1; omega)]; exact h290) (fun _ => by rw [hA2']) (by omega) q5 q7) (by simp [sv_sub, sv_ent, sv_lng]) rfl)
              · refine sv_aload_n (i := 0) dX5_nearest_104 rfl rfl ?_
                refine sv_iload_n (i := 3) dX5_nearest_105 rfl rfl ?_
                refine sv_iconst dX5_nearest_106 ?_
                refine sv_vp0 (As := [_, _]) clX5_38 dX5_nearest_107 ⟨_, rfl, rfl⟩ (by decide) rfl (Nat.le_of_ble_eq_true rfl) (by decide) (by decide) hsh.lt hsh.k (c_X5_of hsh hm5 _ _ (by omega)) ?_
                refine sv_goto (tgt := 114) dX5_nearest_110 (by decide) ?_
                refine sv_istore_n (i := 1) dX5_nearest_114 rfl (by decide) rfl ?_
                refine sv_iload dX5_nearest_115 rfl ?_
                refine sv_if_eq (tgt := 125) dX5_nearest_117 (by decide) (by first | omega | exact hin _ _ | decide | (simp [sv_u, sv_row]; omega) | (simp [sv_u, sv_row]; exact hin _ _) | exact hin1 _ _ | (simp [sv_u, sv_row]; exact hin1 _ _)) (fun h_117 => ?_) (fun h_117 => ?_)
                · refine sv_iload_n (i := 2) dX5_nearest_125 rfl rfl ?_
                  refine sv_istore_n (i := 2) dX5_nearest_126 rfl (by decide) rfl ?_
                  refine sv_iinc dX5_nearest_127 rfl (by decide) rfl ?_
                  refine sv_goto (tgt := 14) dX5_nearest_130 (by decide) ?_
                  have hs := sp_am_s (p := (fun s => m (29 * s + 1) ≤ m 582 ∧ sp_R m (m (29 * s)) = -1)) (d := (fun s => sp_gd m (m (29 * s)))) (b := 13) h1.1
                  have hsp := sp_am_spec (p := (fun s => m (29 * s + 1) ≤ m 582 ∧ sp_R m (m (29 * s)) = -1)) (d := (fun s => sp_gd m (m (29 * s)))) (b := 13) i.toNat
                  first
                    | (exfalso; omega)
                    | (have hA2' : sp_am (fun s => m (29 * s + 1) ≤ m 582 ∧ sp_R m (m (29 * s)) = -1) (fun s => sp_gd m (m (29 * s))) 13 (i + 1).toNat = (sp_am (fun s => m (29 * s + 1) ≤ m 582 ∧ sp_R m (m (29 * s)) = -1) (fun s => sp_gd m (m (29 * s))) 13 i.toNat) := by rw [hs, if_neg (by rintro ⟨⟨c1, c2⟩, c3⟩; first | omega | exact absurd c2 (by assumption))]
                       first
                         | exact sv_wk (ih bs le (i + 1) f1 (by omega) (by omega) (by rw [hA2']; exact hb) (by rw [hA2']; exact hl) hle hsq hwv) (by simp [sv_sub, sv_ent, sv_lng]) rfl
                         | exact sv_wk (ih bs le (i + 1) f3 (by omega) (by omega) (by rw [hA2']; exact hb) (by rw [hA2']; exact hl) hle (hsq.trans hf3.sq) (fun j a1 a2 => by rw [hf3.w]; exact hwv j a1 a2)) (by simp [sv_sub, sv_ent, sv_lng]) rfl
                         | exact sv_wk (ih bs le (i + 1) f4 (by omega) (by omega) (by rw [hA2']; exact hb) (by rw [hA2']; exact hl) hle q5 q7) (by simp [sv_sub, sv_ent, sv_lng]) rfl)
                    | (have hA2' : sp_am (fun s => m (29 * s + 1) ≤ m 582 ∧ sp_R m (m (29 * s)) = -1) (fun s => sp_gd m (m (29 * s))) 13 (i + 1).toNat = (i, sp_gd m (m (29 * i))) := by rw [hs, if_pos (by refine ⟨⟨by omega, by assumption⟩, ?_⟩; show sp_gd m (m (29 * i)) < _; omega)]
                       exact sv_wk (ih (m (29 * i + 0)) (sp_gd m (m (29 * i))) (i + 1) f4 (by omega) (by omega) (by rw [hA2', if_neg (by show ¬ i = -1; omega)]; exact h290) (fun _ => by rw [hA2']) (by omega) q5 q7) (by simp [sv_sub, sv_ent, sv_lng]) rfl)
                · refine sv_iload dX5_nearest_120 rfl ?_
                  refine sv_goto (tgt := 126) dX5_nearest_122 (by decide) ?_
                  refine sv_istore_n (i := 2) dX5_nearest_126 rfl (by decide) rfl ?_
                  refine sv_iinc dX5_nearest_127 rfl (by decide) rfl ?_
                  refine sv_goto (tgt := 14) dX5_nearest_130 (by decide) ?_
                  have hs := sp_am_s (p := (fun s => m (29 * s + 1) ≤ m 582 ∧ sp_R m (m (29 * s)) = -1)) (d := (fun s => sp_gd m (m (29 * s)))) (b := 13) h1.1
                  have hsp := sp_am_spec (p := (fun s => m (29 * s + 1) ≤ m 582 ∧ sp_R m (m (29 * s)) = -1)) (d := (fun s => sp_gd m (m (29 * s)))) (b := 13) i.toNat
                  first
                    | (exfalso; omega)
                    | (have hA2' : sp_am (fun s => m (29 * s + 1) ≤ m 582 ∧ sp_R m (m (29 * s)) = -1) (fun s => sp_gd m (m (29 * s))) 13 (i + 1).toNat = (sp_am (fun s => m (29 * s + 1) ≤ m 582 ∧ sp_R m (m (29 * s)) = -1) (fun s => sp_gd m (m (29 * s))) 13 i.toNat) := by rw [hs, if_neg (by rintro ⟨⟨c1, c2⟩, c3⟩; first | omega | exact absurd c2 (by assumption))]
                       first
                         | exact sv_wk (ih bs le (i + 1) f1 (by omega) (by omega) (by rw [hA2']; exact hb) (by rw [hA2']; exact hl) hle hsq hwv) (by simp [sv_sub, sv_ent, sv_lng]) rfl
                         | exact sv_wk (ih bs le (i + 1) f3 (by omega) (by omega) (by rw [hA2']; exact hb) (by rw [hA2']; exact hl) hle (hsq.trans hf3.sq) (fun j a1 a2 => by rw [hf3.w]; exact hwv j a1 a2)) (by simp [sv_sub, sv_ent, sv_lng]) rfl
                         | exact sv_wk (ih bs le (i + 1) f4 (by omega) (by omega) (by rw [hA2']; exact hb) (by rw [hA2']; exact hl) hle q5 q7) (by simp [sv_sub, sv_ent, sv_lng]) rfl)
                    | (have hA2' : sp_am (fun s => m (29 * s + 1) ≤ m 582 ∧ sp_R m (m (29 * s)) = -1) (fun s => sp_gd m (m (29 * s))) 13 (i + 1).toNat = (i, sp_gd m (m (29 * i))) := by rw [hs, if_pos (by refine ⟨⟨by omega, by assumption⟩, ?_⟩; show sp_gd m (m (29 * i)) < _; omega)]
                       exact sv_wk (ih (m (29 * i + 0)) (sp_gd m (m (29 * i))) (i + 1) f4 (by omega) (by omega) (by rw [hA2', if_neg (by show ¬ i = -1; omega)]; exact h290) (fun _ => by rw [hA2']) (by omega) q5 q7) (by simp [sv_sub, sv_ent, sv_lng]) rfl)
            · refine sv_iload dX5_nearest_86 rfl ?_
              refine sv_iload_n (i := 2) dX5_nearest_88 rfl rfl ?_
              refine sv_icmp_ge (tgt := 96) dX5_nearest_89 (by decide) (by first | omega | exact hin _ _ | decide | (simp [sv_u, sv_row]; omega) | (simp [sv_u, sv_row]; exact hin _ _) | exact hin1 _ _ | (simp [sv_u, sv_row]; exact hin1 _ _)) (by first | omega | exact hin _ _ | decide | (simp [sv_u, sv_row]; omega) | (simp [sv_u, sv_row]; exact hin _ _) | exact hin1 _ _ | (simp [sv_u, sv_row]; exact hin1 _ _)) (fun h_89 => ?_) (fun h_89 => ?_)
              · refine sv_iconst dX5_nearest_96 ?_
                refine sv_istore dX5_nearest_97 (by decide) rfl ?_
                refine sv_iload dX5_nearest_99 rfl ?_
                refine sv_if_eq (tgt := 113) dX5_nearest_101 (by decide) (by first | omega | exact hin _ _ | decide | (simp [sv_u, sv_row]; omega) | (simp [sv_u, sv_row]; exact hin _ _) | exact hin1 _ _ | (simp [sv_u, sv_row]; exact hin1 _ _)) (fun h_101 => ?_) (fun h_101 => ?_)
                · refine sv_iload_n (i := 1) dX5_nearest_113 rfl rfl ?_
                  refine sv_istore_n (i := 1) dX5_nearest_114 rfl (by decide) rfl ?_
                  refine sv_iload dX5_nearest_115 rfl ?_
                  refine sv_if_eq (tgt := 125) dX5_nearest_117 (by decide) (by first | omega | exact hin _ _ | decide | (simp [sv_u, sv_row]; omega) | (simp [sv_u, sv_row]; exact hin _ _) | exact hin1 _ _ | (simp [sv_u, sv_row]; exact hin1 _ _)) (fun h_117 => ?_) (fun h_117 => ?_)
                  · refine sv_iload_n (i := 2) dX5_nearest_125 rfl rfl ?_
                    refine sv_istore_n (i := 2) dX5_nearest_126 rfl (by decide) rfl ?_
                    refine sv_iinc dX5_nearest_127 rfl (by decide) rfl ?_
                    refine sv_goto (tgt := 14) dX5_nearest_130 (by decide) ?_
                    have hs := sp_am_s (p := (fun s => m (29 * s + 1) ≤ m 582 ∧ sp_R m (m (29 * s)) = -1)) (d := (fun s => sp_gd m (m (29 * s)))) (b := 13) h1.1
                    have hsp := sp_am_spec (p := (fun s => m (29 * s + 1) ≤ m 582 ∧ sp_R m (m (29 * s)) = -1)) (d := (fun s => sp_gd m (m (29 * s)))) (b := 13) i.toNat
                    first
                      | (exfalso; omega)
                      | (have hA2' : sp_am (fun s => m (29 * s + 1) ≤ m 582 ∧ sp_R m (m (29 * s)) = -1) (fun s => sp_gd m (m (29 * s))) 13 (i + 1).toNat = (sp_am (fun s => m (29 * s + 1) ≤ m 582 ∧ sp_R m (m (29 * s)) = -1) (fun s => sp_gd m (m (29 * s))) 13 i.toNat) := by rw [hs, if_neg (by rintro ⟨⟨c1, c2⟩, c3⟩; first | omega | exact absurd c2 (by assumption))]
                         first
                           | exact sv_wk (ih bs le (i + 1) f1 (by omega) (by omega) (by rw [hA2']; exact hb) (by rw [hA2']; exact hl) hle hsq hwv) (by simp [sv_sub, sv_ent, sv_lng]) rfl
                           | exact sv_wk (ih bs le (i + 1) f3 (by omega) (by omega) (by rw [hA2']; exact hb) (by rw [hA2']; exact hl) hle (hsq.trans hf3.sq) (fun j a1 a2 => by rw [hf3.w]; exact hwv j a1 a2)) (by simp [sv_sub, sv_ent, sv_lng]) rfl
                           | exact sv_wk (ih bs le (i + 1) f4 (by omega) (by omega) (by rw [hA2']; exact hb) (by rw [hA2']; exact hl) hle q5 q7) (by simp [sv_sub, sv_ent, sv_lng]) rfl)
                      | (have hA2' : sp_am (fun s => m (29 * s + 1) ≤ m 582 ∧ sp_R m (m (29 * s)) = -1) (fun s => sp_gd m (m (29 * s))) 13 (i + 1).toNat = (i, sp_gd m (m (29 * i))) := by rw [hs, if_pos (by refine ⟨⟨by omega, by assumption⟩, ?_⟩; show sp_gd m (m (29 * i)) < _; omega)]
                         exact sv_wk (ih (m (29 * i + 0)) (sp_gd m (m (29 * i))) (i + 1) f4 (by omega) (by omega) (by rw [hA2', if_neg (by show ¬ i = -1; omega)]; exact h290) (fun _ => by rw [hA2']) (by omega) q5 q7) (by simp [sv_sub, sv_ent, sv_lng]) rfl)
                  · refine sv_iload dX5_nearest_120 rfl ?_
                    refine sv_goto (tgt := 126) dX5_nearest_122 (by decide) ?_
                    refine sv_istore_n (i := 2) dX5_nearest_126 rfl (by decide) rfl ?_
                    refine sv_iinc dX5_nearest_127 rfl (by decide) rfl ?_
                    refine sv_goto (tgt := 14) dX5_nearest_130 (by decide) ?_
                    have hs := sp_am_s (p := (fun s => m (29 * s + 1) ≤ m 582 ∧ sp_R m (m (29 * s)) = -1)) (d := (fun s => sp_gd m (m (29 * s)))) (b := 13) h1.1
                    have hsp := sp_am_spec (p := (fun s => m (29 * s + 1) ≤ m 582 ∧ sp_R m (m (29 * s)) = -1)) (d := (fun s => sp_gd m (m (29 * s)))) (b := 13) i.toNat
                    first
                      | (exfalso; omega)
                      | (have hA2' : sp_am (fun s => m (29 * s + 1) ≤ m 582 ∧ sp_R m (m (29 * s)) = -1) (fun s => sp_gd m (m (29 * s))) 13 (i + 1).toNat = (sp_am (fun s => m (29 * s + 1) ≤ m 582 ∧ sp_R m (m (29 * s)) = -1) (fun s => sp_gd m (m (29 * s))) 13 i.toNat) := by rw [hs, if_neg (by rintro ⟨⟨c1, c2⟩, c3⟩; first | omega | exact absurd c2 (by assumption))]
                         first
                           | exact sv_wk (ih bs le (i + 1) f1 (by omega) (by omega) (by rw [hA2']; exact hb) (by rw [hA2']; exact hl) hle hsq hwv) (by simp [sv_sub, sv_ent, sv_lng]) rfl
                           | exact sv_wk (ih bs le (i + 1) f3 (by omega) (by omega) (by rw [hA2']; exact hb) (by rw [hA2']; exact hl) hle (hsq.trans hf3.sq) (fun j a1 a2 => by rw [hf3.w]; exact hwv j a1 a2)) (by simp [sv_sub, sv_ent, sv_lng]) rfl
                           | exact sv_wk (ih bs le (i + 1) f4 (by omega) (by omega) (by rw [hA2']; exact hb) (by rw [hA2']; exact hl) hle q5 q7) (by simp [sv_sub, sv_ent, sv_lng]) rfl)
                      | (have hA2' : sp_am (fun s => m (29 * s + 1) ≤ m 582 ∧ sp_R m (m (29 * s)) = -1) (fun s => sp_gd m (m (29 * s))) 13 (i + 1).toNat = (i, sp_gd m (m (29 * i))) := by rw [hs, if_pos (by refine ⟨⟨by omega, by assumption⟩, ?_⟩; show sp_gd m (m (29 * i)) < _; omega)]
                         exact sv_wk (ih (m (29 * i + 0)) (sp_gd m (m (29 * i))) (i + 1) f4 (by omega) (by omega) (by rw [hA2', if_neg (by show ¬ i = -1; omega)]; exact h290) (fun _ => by rw [hA2']) (by omega) q5 q7) (by simp [sv_sub, sv_ent, sv_lng]) rfl)
                · refine sv_aload_n (i := 0) dX5_nearest_104 rfl rfl ?_
                  refine sv_iload_n (i := 3) dX5_nearest_105 rfl rfl ?_
                  refine sv_iconst dX5_nearest_106 ?_
                  refine sv_vp0 (As := [_, _]) clX5_38 dX5_nearest_107 ⟨_, rfl, rfl⟩ (by decide) rfl (Nat.le_of_ble_eq_true rfl) (by decide) (by decide) hsh.lt hsh.k (c_X5_of hsh hm5 _ _ (by omega)) ?_
                  refine sv_goto (tgt := 114) dX5_nearest_110 (by decide) ?_
                  refine sv_istore_n (i := 1) dX5_nearest_114 rfl (by decide) rfl ?_
                  refine sv_iload dX5_nearest_115 rfl ?_
                  refine sv_if_eq (tgt := 125) dX5_nearest_117 (by decide) (by first | omega | exact hin _ _ | decide | (simp [sv_u, sv_row]; omega) | (simp [sv_u, sv_row]; exact hin _ _) | exact hin1 _ _ | (simp [sv_u, sv_row]; exact hin1 _ _)) (fun h_117 => ?_) (fun h_117 => ?_)
                  · refine sv_iload_n (i := 2) dX5_nearest_125 rfl rfl ?_
                    refine sv_istore_n (i := 2) dX5_nearest_126 rfl (by decide) rfl ?_
                    refine sv_iinc dX5_nearest_127 rfl (by decide) rfl ?_
                    refine sv_goto (tgt := 14) dX5_nearest_130 (by decide) ?_
                    have hs := sp_am_s (p := (fun s => m (29 * s + 1) ≤ m 582 ∧ sp_R m (m (29 * s)) = -1)) (d := (fun s => sp_gd m (m (29 * s)))) (b := 13) h1.1
                    have hsp := sp_am_spec (p := (fun s => m (29 * s + 1) ≤ m 582 ∧ sp_R m (m (29 * s)) = -1)) (d := (fun s => sp_gd m (m (29 * s)))) (b := 13) i.toNat
                    first
                      | (exfalso; omega)
                      | (have hA2' : sp_am (fun s => m (29 * s + 1) ≤ m 582 ∧ sp_R m (m (29 * s)) = -1) (fun s => sp_gd m (m (29 * s))) 13 (i + 1).toNat = (sp_am (fun s => m (29 * s + 1) ≤ m 582 ∧ sp_R m (m (29 * s)) = -1) (fun s => sp_gd m (m (29 * s))) 13 i.toNat) := by rw [hs, if_neg (by rintro ⟨⟨c1, c2⟩, c3⟩; first | omega | exact absurd c2 (by assumption))]
                         first
                           | exact sv_wk (ih bs le (i + 1) f1 (by omega) (by omega) (by rw [hA2']; exact hb) (by rw [hA2']; exact hl) hle hsq hwv) (by simp [sv_sub, sv_ent, sv_lng]) rfl
                           | exact sv_wk (ih bs le (i + 1) f3 (by omega) (by omega) (by rw [hA2']; exact hb) (by rw [hA2']; exact hl) hle (hsq.trans hf3.sq) (fun j a1 a2 => by rw [hf3.w]; exact hwv j a1 a2)) (by simp [sv_sub, sv_ent, sv_lng]) rfl
                           | exact sv_wk (ih bs le (i + 1) f4 (by omega) (by omega) (by rw [hA2']; exact hb) (by rw [hA2']; exact hl) hle q5 q7) (by simp [sv_sub, sv_ent, sv_lng]) rfl)
                      | (have hA2' : sp_am (fun s => m (29 * s + 1) ≤ m 582 ∧ sp_R m (m (29 * s)) = -1) (fun s => sp_gd m (m (29 * s))) 13 (i + 1).toNat = (i, sp_gd m (m (29 * i))) := by rw [hs, if_pos (by refine ⟨⟨by omega, by assumption⟩, ?_⟩; show sp_gd m (m (29 * i)) < _; omega)]
                         exact sv_wk (ih (m (29 * i + 0)) (sp_gd m (m (29 * i))) (i + 1) f4 (by omega) (by omega) (by rw [hA2', if_neg (by show ¬ i = -1; omega)]; exact h290) (fun _ => by rw [hA2']) (by omega) q5 q7) (by simp [sv_sub, sv_ent, sv_lng]) rfl)
                  · refine sv_iload dX5_nearest_120 rfl ?_
                    refine sv_goto (tgt := 126) dX5_nearest_122 (by decide) ?_
                    refine sv_istore_n (i := 2) dX5_nearest_126 rfl (by decide) rfl ?_
                    refine sv_iinc dX5_nearest_127 rfl (by decide) rfl ?_
                    refine sv_goto (tgt := 14) dX5_nearest_130 (by decide) ?_
                    have hs := sp_am_s (p := (fun s => m (29 * s + 1) ≤ m 582 ∧ sp_R m (m (29 * s)) = -1)) (d := (fun s => sp_gd m (m (29 * s)))) (b := 13) h1.1
                    have hsp := sp_am_spec (p := (fun s => m (29 * s + 1) ≤ m 582 ∧ sp_R m (m (29 * s)) = -1)) (d := (fun s => sp_gd m (m (29 * s)))) (b := 13) i.toNat
                    first
                      | (exfalso; omega)
                      | (have hA2' : sp_am (fun s => m (29 * s + 1) ≤ m 582 ∧ sp_R m (m (29 * s)) = -1) (fun s => sp_gd m (m (29 * s))) 13 (i + 1).toNat = (sp_am (fun s => m (29 * s + 1) ≤ m 582 ∧ sp_R m (m (29 * s)) = -1) (fun s => sp_gd m (m (29 * s))) 13 i.toNat) := by rw [hs, if_neg (by rintro ⟨⟨c1, c2⟩, c3⟩; first | omega | exact absurd c2 (by assumption))]
                         first
                           | exact sv_wk (ih bs le (i + 1) f1 (by omega) (by omega) (by rw [hA2']; exact hb) (by rw [hA2']; exact hl) hle hsq hwv) (by simp [sv_sub, sv_ent, sv_lng]) rfl
                           | exact sv_wk (ih bs le (i + 1) f3 (by omega) (by omega) (by rw [hA2']; exact hb) (by rw [hA2']; exact hl) hle (hsq.trans hf3.sq) (fun j a1 a2 => by rw [hf3.w]; exact hwv j a1 a2)) (by simp [sv_sub, sv_ent, sv_lng]) rfl
                           | exact sv_wk (ih bs le (i + 1) f4 (by omega) (by omega) (by rw [hA2']; exact hb) (by rw [hA2']; exact hl) hle q5 q7) (by simp [sv_sub, sv_ent, sv_lng]) rfl)
                      | (have hA2' : sp_am (fun s => m (29 * s + 1) ≤ m 582 ∧ sp_R m (m (29 * s)) = -1) (fun s => sp_gd m (m (29 * s))) 13 (i + 1).toNat = (i, sp_gd m (m (29 * i))) := by rw [hs, if_pos (by refine ⟨⟨by omega, by assumption⟩, ?_⟩; show sp_gd m (m (29 * i)) < _; omega)]
                         exact sv_wk (ih (m (29 * i + 0)) (sp_gd m (m (29 * i))) (i + 1) f4 (by omega) (by omega) (by rw [hA2', if_neg (by show ¬ i = -1; omega)]; exact h290) (fun _ => by rw [hA2']) (by omega) q5 q7) (by simp [sv_sub, sv_ent, sv_lng]) rfl)
              · refine sv_iconst dX5_nearest_92 ?_
                refine sv_goto (tgt := 97) dX5_nearest_93 (by decide) ?_
                refine sv_istore dX5_nearest_97 (by decide) rfl ?_
                refine sv_iload dX5_nearest_99 rfl ?_
                refine sv_if_eq (tgt := 113) dX5_nearest_101 (by decide) (by first | omega | exact hin _ _ | decide | (simp [sv_u, sv_row]; omega) | (simp [sv_u, sv_row]; exact hin _ _) | exact hin1 _ _ | (simp [sv_u, sv_row]; exact hin1 _ _)) (fun h_101 => ?_) (fun h_101 => ?_)
                · refine sv_iload_n (i := 1) dX5_nearest_113 rfl rfl ?_
                  refine sv_istore_n (i := 1) dX5_nearest_114 rfl (by decide) rfl ?_
                  refine sv_iload dX5_nearest_115 rfl ?_
                  refine sv_if_eq (tgt := 125) dX5_nearest_117 (by decide) (by first | omega | exact hin _ _ | decide | (simp [sv_u, sv_row]; omega) | (simp [sv_u, sv_row]; exact hin _ _) | exact hin1 _ _ | (simp [sv_u, sv_row]; exact hin1 _ _)) (fun h_117 => ?_) (fun h_117 => ?_)
                  · refine sv_iload_n (i := 2) dX5_nearest_125 rfl rfl ?_
                    refine sv_istore_n (i := 2) dX5_nearest_126 rfl (by decide) rfl ?_
                    refine sv_iinc dX5_nearest_127 rfl (by decide) rfl ?_
                    refine sv_goto (tgt := 14) dX5_nearest_130 (by decide) ?_
                    have hs := sp_am_s (p := (fun s => m (29 * s + 1) ≤ m 582 ∧ sp_R m (m (29 * s)) = -1)) (d := (fun s => sp_gd m (m (29 * s)))) (b := 13) h1.1
                    have hsp := sp_am_spec (p := (fun s => m (29 * s + 1) ≤ m 582 ∧ sp_R m (m (29 * s)) = -1)) (d := (fun s => sp_gd m (m (29 * s)))) (b := 13) i.toNat
                    first
                      | (exfalso; omega)
                      | (have hA2' : sp_am (fun s => m (29 * s + 1) ≤ m 582 ∧ sp_R m (m (29 * s)) = -1) (fun s => sp_gd m (m (29 * s))) 13 (i + 1).toNat = (sp_am (fun s => m (29 * s + 1) ≤ m 582 ∧ sp_R m (m (29 * s)) = -1) (fun s => sp_gd m (m (29 * s))) 13 i.toNat) := by rw [hs, if_neg (by rintro ⟨⟨c1, c2⟩, c3⟩; first | omega | exact absurd c2 (by assumption))]
                         first
                           | exact sv_wk (ih bs le (i + 1) f1 (by omega) (by omega) (by rw [hA2']; exact hb) (by rw [hA2']; exact hl) hle hsq hwv) (by simp [sv_sub, sv_ent, sv_lng]) rfl
                           | exact sv_wk (ih bs le (i + 1) f3 (by omega) (by omega) (by rw [hA2']; exact hb) (by rw [hA2']; exact hl) hle (hsq.trans hf3.sq) (fun j a1 a2 => by rw [hf3.w]; exact hwv j a1 a2)) (by simp [sv_sub, sv_ent, sv_lng]) rfl
                           | exact sv_wk (ih bs le (i + 1) f4 (by omega) (by omega) (by rw [hA2']; exact hb) (by rw [hA2']; exact hl) hle q5 q7) (by simp [sv_sub, sv_ent, sv_lng]) rfl)
                      | (have hA2' : sp_am (fun s => m (29 * s + 1) ≤ m 582 ∧ sp_R m (m (29 * s)) = -1) (fun s => sp_gd m (m (29 * s))) 13 (i + 1).toNat = (i, sp_gd m (m (29 * i))) := by rw [hs, if_pos (by refine ⟨⟨by omega, by assumption⟩, ?_⟩; show sp_gd m (m (29 * i)) < _; omega)]
                         exact sv_wk (ih (m (29 * i + 0)) (sp_gd m (m (29 * i))) (i + 1) f4 (by omega) (by omega) (by rw [hA2', if_neg (by show ¬ i = -1; omega)]; exact h290) (fun _ => by rw [hA2']) (by omega) q5 q7) (by simp [sv_sub, sv_ent, sv_lng]) rfl)
                  · refine sv_iload dX5_nearest_120 rfl ?_
                    refine sv_goto (tgt := 126) dX5_nearest_122 (by decide) ?_
                    refine sv_istore_n (i := 2) dX5_nearest_126 rfl (by decide) rfl ?_
                    refine sv_iinc dX5_nearest_127 rfl (by decide) rfl ?_
                    refine sv_goto (tgt := 14) dX5_nearest_130 (by decide) ?_
                    have hs := sp_am_s (p := (fun s => m (29 * s + 1) ≤ m 582 ∧ sp_R m (m (29 * s)) = -1)) (d := (fun s => sp_gd m (m (29 * s)))) (b := 13) h1.1
                    have hsp := sp_am_spec (p := (fun s => m (29 * s + 1) ≤ m 582 ∧ sp_R m (m (29 * s)) = -1)) (d := (fun s => sp_gd m (m (29 * s)))) (b := 13) i.toNat
                    first
                      | (exfalso; omega)
                      | (have hA2' : sp_am (fun s => m (29 * s + 1) ≤ m 582 ∧ sp_R m (m (29 * s)) = -1) (fun s => sp_gd m (m (29 * s))) 13 (i + 1).toNat = (sp_am (fun s => m (29 * s + 1) ≤ m 582 ∧ sp_R m (m (29 * s)) = -1) (fun s => sp_gd m (m (29 * s))) 13 i.toNat) := by rw [hs, if_neg (by rintro ⟨⟨c1, c2⟩, c3⟩; first | omega | exact absurd c2 (by assumption))]
                         first
                           | exact sv_wk (ih bs le (i + 1) f1 (by omega) (by omega) (by rw [hA2']; exact hb) (by rw [hA2']; exact hl) hle hsq hwv) (by simp [sv_sub, sv_ent, sv_lng]) rfl
                           | exact sv_wk (ih bs le (i + 1) f3 (by omega) (by omega) (by rw [hA2']; exact hb) (by rw [hA2']; exact hl) hle (hsq.trans hf3.sq) (fun j a1 a2 => by rw [hf3.w]; exact hwv j a1 a2)) (by simp [sv_sub, sv_ent, sv_lng]) rfl
                           | exact sv_wk (ih bs le (i + 1) f4 (by omega) (by omega) (by rw [hA2']; exact hb) (by rw [hA2']; exact hl) hle q5 q7) (by simp [sv_sub, sv_ent, sv_lng]) rfl)
                      | (have hA2' : sp_am (fun s => m (29 * s + 1) ≤ m 582 ∧ sp_R m (m (29 * s)) = -1) (fun s => sp_gd m (m (29 * s))) 13 (i + 1).toNat = (i, sp_gd m (m (29 * i))) := by rw [hs, if_pos (by refine ⟨⟨by omega, by assumption⟩, ?_⟩; show sp_gd m (m (29 * i)) < _; omega)]
                         exact sv_wk (ih (m (29 * i + 0)) (sp_gd m (m (29 * i))) (i + 1) f4 (by omega) (by omega) (by rw [hA2', if_neg (by show ¬ i = -1; omega)]; exact h290) (fun _ => by rw [hA2']) (by omega) q5 q7) (by simp [sv_sub, sv_ent, sv_lng]) rfl)
                · refine sv_aload_n (i := 0) dX5_nearest_104 rfl rfl ?_
                  refine sv_iload_n (i := 3) dX5_nearest_105 rfl rfl ?_
                  refine sv_iconst dX5_nearest_106 ?_
                  refine sv_vp0 (As := [_, _]) clX5_38 dX5_nearest_107 ⟨_, rfl, rfl⟩ (by decide) rfl (Nat.le_of_ble_eq_true rfl) (by decide) (by decide) hsh.lt hsh.k (c_X5_of hsh hm5 _ _ (by omega)) ?_
                  refine sv_goto (tgt := 114) dX5_nearest_110 (by decide) ?_
                  refine sv_istore_n (i := 1) dX5_nearest_114 rfl (by decide) rfl ?_
                  refine sv_iload dX5_nearest_115 rfl ?_
                  refine sv_if_eq (tgt := 125) dX5_nearest_117 (by decide) (by first | omega | exact hin _ _ | decide | (simp [sv_u, sv_row]; omega) | (simp [sv_u, sv_row]; exact hin _ _) | exact hin1 _ _ | (simp [sv_u, sv_row]; exact hin1 _ _)) (fun h_117 => ?_) (fun h_117 => ?_)
                  · refine sv_iload_n (i := 2) dX5_nearest_125 rfl rfl ?_
                    refine sv_istore_n (i := 2) dX5_nearest_126 rfl (by decide) rfl ?_
                    refine sv_iinc dX5_nearest_127 rfl (by decide) rfl ?_
                    refine sv_goto (tgt := 14) dX5_nearest_130 (by decide) ?_
                    have hs := sp_am_s (p := (fun s => m (29 * s + 1) ≤ m 582 ∧ sp_R m (m (29 * s)) = -1)) (d := (fun s => sp_gd m (m (29 * s)))) (b := 13) h1.1
                    have hsp := sp_am_spec (p := (fun s => m (29 * s + 1) ≤ m 582 ∧ sp_R m (m (29 * s)) = -1)) (d := (fun s => sp_gd m (m (29 * s)))) (b := 13) i.toNat
                    first
                      | (exfalso; omega)
                      | (have hA2' : sp_am (fun s => m (29 * s + 1) ≤ m 582 ∧ sp_R m (m (29 * s)) = -1) (fun s => sp_gd m (m (29 * s))) 13 (i + 1).toNat = (sp_am (fun s => m (29 * s + 1) ≤ m 582 ∧ sp_R m (m (29 * s)) = -1) (fun s => sp_gd m (m (29 * s))) 13 i.toNat) := by rw [hs, if_neg (by rintro ⟨⟨c1, c2⟩, c3⟩; first | omega | exact absurd c2 (by assumption))]
                         first
                           | exact sv_wk (ih bs le (i + 1) f1 (by omega) (by omega) (by rw [hA2']; exact hb) (by rw [hA2']; exact hl) hle hsq hwv) (by simp [sv_sub, sv_ent, sv_lng]) rfl
                           | exact sv_wk (ih bs le (i + 1) f3 (by omega) (by omega) (by rw [hA2']; exact hb) (by rw [hA2']; exact hl) hle (hsq.trans hf3.sq) (fun j a1 a2 => by rw [hf3.w]; exact hwv j a1 a2)) (by simp [sv_sub, sv_ent, sv_lng]) rfl
                           | exact sv_wk (ih bs le (i + 1) f4 (by omega) (by omega) (by rw [hA2']; exact hb) (by rw [hA2']; exact hl) hle q5 q7) (by simp [sv_sub, sv_ent, sv_lng]) rfl)
                      | (have hA2' : sp_am (fun s => m (29 * s + 1) ≤ m 582 ∧ sp_R m (m (29 * s)) = -1) (fun s => sp_gd m (m (29 * s))) 13 (i + 1).toNat = (i, sp_gd m (m (29 * i))) := by rw [hs, if_pos (by refine ⟨⟨by omega, by assumption⟩, ?_⟩; show sp_gd m (m (29 * i)) < _; omega)]
                         exact sv_wk (ih (m (29 * i + 0)) (sp_gd m (m (29 * i))) (i + 1) f4 (by omega) (by omega) (by rw [hA2', if_neg (by show ¬ i = -1; omega)]; exact h290) (fun _ => by rw [hA2']) (by omega) q5 q7) (by simp [sv_sub, sv_ent, sv_lng]) rfl)
                  · refine sv_iload dX5_nearest_120 rfl ?_
                    refine sv_goto (tgt := 126) dX5_nearest_122 (by decide) ?_
                    refine sv_istore_n (i := 2) dX5_nearest_126 rfl (by decide) rfl ?_
                    refine sv_iinc dX5_nearest_127 rfl (by decide) rfl ?_
                    refine sv_goto (tgt := 14) dX5_nearest_130 (by decide) ?_
                    have hs := sp_am_s (p := (fun s => m (29 * s + 1) ≤ m 582 ∧ sp_R m (m (29 * s)) = -1)) (d := (fun s => sp_gd m (m (29 * s)))) (b := 13) h1.1
                    have hsp := sp_am_spec (p := (fun s => m (29 * s + 1) ≤ m 582 ∧ sp_R m (m (29 * s)) = -1)) (d := (fun s => sp_gd m (m (29 * s)))) (b := 13) i.toNat
                    first
                      | (exfalso; omega)
                      | (have hA2' : sp_am (fun s => m (29 * s + 1) ≤ m 582 ∧ sp_R m (m (29 * s)) = -1) (fun s => sp_gd m (m (29 * s))) 13 (i + 1).toNat = (sp_am (fun s => m (29 * s + 1) ≤ m 582 ∧ sp_R m (m (29 * s)) = -1) (fun s => sp_gd m (m (29 * s))) 13 i.toNat) := by rw [hs, if_neg (by rintro ⟨⟨c1, c2⟩, c3⟩; first | omega | exact absurd c2 (by assumption))]
                         first
                           | exact sv_wk (ih bs le (i + 1) f1 (by omega) (by omega) (by rw [hA2']; exact hb) (by rw [hA2']; exact hl) hle hsq hwv) (by simp [sv_sub, sv_ent, sv_lng]) rfl
                           | exact sv_wk (ih bs le (i + 1) f3 (by omega) (by omega) (by rw [hA2']; exact hb) (by rw [hA2']; exact hl) hle (hsq.trans hf3.sq) (fun j a1 a2 => by rw [hf3.w]; exact hwv j a1 a2)) (by simp [sv_sub, sv_ent, sv_lng]) rfl
                           | exact sv_wk (ih bs le (i + 1) f4 (by omega) (by omega) (by rw [hA2']; exact hb) (by rw [hA2']; exact hl) hle q5 q7) (by simp [sv_sub, sv_ent, sv_lng]) rfl)
                      | (have hA2' : sp_am (fun s => m (29 * s + 1) ≤ m 582 ∧ sp_R m (m (29 * s)) = -1) (fun s => sp_gd m (m (29 * s))) 13 (i + 1).toNat = (i, sp_gd m (m (29 * i))) := by rw [hs, if_pos (by refine ⟨⟨by omega, by assumption⟩, ?_⟩; show sp_gd m (m (29 * i)) < _; omega)]
                         exact sv_wk (ih (m (29 * i + 0)) (sp_gd m (m (29 * i))) (i + 1) f4 (by omega) (by omega) (by rw [hA2', if_neg (by show ¬ i = -1; omega)]; exact h290) (fun _ => by rw [hA2']) (by omega) q5 q7) (by simp [sv_sub, sv_ent, sv_lng]) rfl)
  refine sv_aload_n (i := 0) dX5_nearest_0 rfl rfl ?_
  refine sv_vv0 (As := []) clX5_143 dX5_nearest_1 ⟨_, rfl, rfl⟩ (by decide) rfl (Nat.le_of_ble_eq_true rfl) (by decide) (by decide) hsh.lt hsh.k (c_X5_takesGame hsh) (fun f1 hf1 => ?_)
  refine sv_aload_n (i := 0) dX5_nearest_4 rfl rfl ?_
  refine sv_vv0 (As := []) clX5_149 dX5_nearest_5 ⟨_, rfl, rfl⟩ (by decide) rfl (Nat.le_of_ble_eq_true rfl) (by decide) (by decide) hsh.lt hsh.k (c_X5_setsAside hsh) (fun f2 hf2 => ?_)
  refine sv_iconst dX5_nearest_8 ?_
  refine sv_istore_n (i := 1) dX5_nearest_9 rfl (by decide) rfl ?_
  refine sv_iconst dX5_nearest_10 ?_
  refine sv_istore_n (i := 2) dX5_nearest_11 rfl (by decide) rfl ?_
  refine sv_iconst dX5_nearest_12 ?_
  refine sv_istore_n (i := 3) dX5_nearest_13 rfl (by decide) rfl ?_
  have e1 : sp_sq o f f2 := by
    subst hf2; subst hf1
    exact ⟨fun x a1 a2 a3 a4 a5 a6 a7 => by rw [sv_row_ne a5, sv_u_ne a1, sv_row_ne a2], by simp [sv_row, sv_u], by simp [sv_row, sv_u]⟩
  have e2 : ∀ j, 0 ≤ j → j < 12 → f2 (o + 6) j = sp_gv m j := fun j a1 a2 => by
    subst hf2; subst hf1
    simp [sv_row, sv_u, a1, a2, hm, sp_gv]
  exact sv_wk (lp (m 580 + 1).toNat (-1) 0 0 f2 (by omega) (by omega) rfl (fun h => absurd rfl h) (by omega) e1 e2) (by simp [sv_sub, sv_ent, sv_lng]) rfl
