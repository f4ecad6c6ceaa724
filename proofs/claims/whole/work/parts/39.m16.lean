set_option maxRecDepth 100000 in
set_option maxHeartbeats 4000000 in
theorem c_X5_nearestBase {X : sv_X} {S : sv_S} {f : sv_F} {r : sv_R} {g : sv_G} {o : Nat} {m : Int → Int} (hsh : sv_M5 S r o) (hm : f (o + 1) = m) {wv : Int → Int} (hw : sp_wt m) (hl : 1 ≤ m 596 ∧ m 596 ≤ 8) (s : Int) (hs : 0 ≤ s ∧ s < m 580) (hwv : ∀ j, 0 ≤ j → j < sp_n m s → f (o + 6) j = wv j) (hpk : ∀ t, 0 ≤ t → t < s → f (o + 9) t = if sp_R m (m (29 * t)) = -1 then 1 else 0) : sv_C X 4 MX5_nearestBase 0 0 [sv_r o, sv_i s] S f r g (sv_qi (fun a f' => a = (sp_am (fun t => m (29 * t + 1) ≤ m (29 * s + 1) ∧ sp_lk m (m (29 * t)) < m 596 ∧ sp_R m (m (29 * t)) = -1) (fun t => sp_dn (sp_rz (sp_V m (m (29 * t))) (m (29 * t + 1)) (m (29 * s + 1))) wv (sp_n m s).toNat) 7 s.toNat).1 ∧ sp_sq o f f' ∧ f' (o + 6) = f (o + 6) ∧ f' (o + 9) = f (o + 9)) S r g) := by
  refine sv_met (by decide) (by simp [lg_sl, sv_cv, va_rf, Value.category]) ?_
  refine sv_fr fun hin => ?_
  have hcc := hw.c
  have hcm := hw.cm
  have hfs := hw.frm hs.1 hs.2
  have lp : ∀ (k : Nat) (bs : Int) (le : Int) (i : Int) (f1 : sv_F), s - i < (k : Int) → (0 ≤ i ∧ i ≤ s) → (bs = (sp_am (fun t => m (29 * t + 1) ≤ m (29 * s + 1) ∧ sp_lk m (m (29 * t)) < m 596 ∧ sp_R m (m (29 * t)) = -1) (fun t => sp_dn (sp_rz (sp_V m (m (29 * t))) (m (29 * t + 1)) (m (29 * s + 1))) wv (sp_n m s).toNat) 7 i.toNat).1) → (le = (sp_am (fun t => m (29 * t + 1) ≤ m (29 * s + 1) ∧ sp_lk m (m (29 * t)) < m 596 ∧ sp_R m (m (29 * t)) = -1) (fun t => sp_dn (sp_rz (sp_V m (m (29 * t))) (m (29 * t + 1)) (m (29 * s + 1))) wv (sp_n m s).toNat) 7 i.toNat).2) → (sp_sq o f f1) → (f1 (o + 6) = f (o + 6)) → (f1 (o + 9) = f (o + 9)) → sv_T X (sv_rm 4 0 0) MX5_nearestBase (sv_Zm X 0 0 (sv_qi (fun a f' => a = (sp_am (fun t => m (29 * t + 1) ≤ m (29 * s + 1) ∧ sp_lk m (m (29 * t)) < m 596 ∧ sp_R m (m (29 * t)) = -1) (fun t => sp_dn (sp_rz (sp_V m (m (29 * t))) (m (29 * t + 1)) (m (29 * s + 1))) wv (sp_n m s).toNat) 7 s.toNat).1 ∧ sp_sq o f f' ∧ f' (o + 6) = f (o + 6) ∧ f' (o + 9) = f (o + 9)) S r g)) 0 0 8 [some (sv_r o), some (sv_i s), some (sv_i bs), some (sv_i le), some (sv_i i), none] [] S (f1) r g := by
    intro k
    induction k with
    | zero =>
      intro bs le i f1 hk h1 hb hle hsq hk6 hk9
      exact absurd hk (by omega)
    | succ k ih =>
      intro bs le i f1 hk h1 hb hle hsq hk6 hk9
      refine sv_fr fun hin1 => ?_
      have hm1 : f1 (o + 1) = m := hsq.m.trans hm
      have hsp := sp_am_spec (p := (fun t => m (29 * t + 1) ≤ m (29 * s + 1) ∧ sp_lk m (m (29 * t)) < m 596 ∧ sp_R m (m (29 * t)) = -1)) (d := (fun t => sp_dn (sp_rz (sp_V m (m (29 * t))) (m (29 * t + 1)) (m (29 * s + 1))) wv (sp_n m s).toNat)) (b := 7) i.toNat
      have hlei : -2147483648 ≤ le ∧ le ≤ 7 := by
        rw [hle]
        rcases hsp with ⟨c1, c2, -⟩ | ⟨c1, c2, c3, c4, c5⟩
        · omega
        · have c6 := sp_dn_in (sp_rz (sp_V m (m (29 * (sp_am (fun t => m (29 * t + 1) ≤ m (29 * s + 1) ∧ sp_lk m (m (29 * t)) < m 596 ∧ sp_R m (m (29 * t)) = -1) (fun t => sp_dn (sp_rz (sp_V m (m (29 * t))) (m (29 * t + 1)) (m (29 * s + 1))) wv (sp_n m s).toNat) 7 i.toNat).1))) (m (29 * (sp_am (fun t => m (29 * t + 1) ≤ m (29 * s + 1) ∧ sp_lk m (m (29 * t)) < m 596 ∧ sp_R m (m (29 * t)) = -1) (fun t => sp_dn (sp_rz (sp_V m (m (29 * t))) (m (29 * t + 1)) (m (29 * s + 1))) wv (sp_n m s).toNat) 7 i.toNat).1 + 1)) (m (29 * s + 1))) wv (sp_n m s).toNat
          have c7 : (sp_am (fun t => m (29 * t + 1) ≤ m (29 * s + 1) ∧ sp_lk m (m (29 * t)) < m 596 ∧ sp_R m (m (29 * t)) = -1) (fun t => sp_dn (sp_rz (sp_V m (m (29 * t))) (m (29 * t + 1)) (m (29 * s + 1))) wv (sp_n m s).toNat) 7 i.toNat).2 = sp_dn (sp_rz (sp_V m (m (29 * (sp_am (fun t => m (29 * t + 1) ≤ m (29 * s + 1) ∧ sp_lk m (m (29 * t)) < m 596 ∧ sp_R m (m (29 * t)) = -1) (fun t => sp_dn (sp_rz (sp_V m (m (29 * t))) (m (29 * t + 1)) (m (29 * s + 1))) wv (sp_n m s).toNat) 7 i.toNat).1))) (m (29 * (sp_am (fun t => m (29 * t + 1) ≤ m (29 * s + 1) ∧ sp_lk m (m (29 * t)) < m 596 ∧ sp_R m (m (29 * t)) = -1) (fun t => sp_dn (sp_rz (sp_V m (m (29 * t))) (m (29 * t + 1)) (m (29 * s + 1))) wv (sp_n m s).toNat) 7 i.toNat).1 + 1)) (m (29 * s + 1))) wv (sp_n m s).toNat := c4
          omega
      refine sv_iload dX5_nearestBase_8 rfl ?_
      refine sv_iload_n (i := 1) dX5_nearestBase_10 rfl rfl ?_
      refine sv_icmp_ge (tgt := 131) dX5_nearestBase_11 (by decide) (by first | omega | exact hin _ _ | decide | (simp [sv_u, sv_row]; omega) | (simp [sv_u, sv_row]; exact hin _ _) | exact hin1 _ _ | (simp [sv_u, sv_row]; exact hin1 _ _)) (by first | omega | exact hin _ _ | decide | (simp [sv_u, sv_row]; omega) | (simp [sv_u, sv_row]; exact hin _ _) | exact hin1 _ _ | (simp [sv_u, sv_row]; exact hin1 _ _)) (fun h_11 => ?_) (fun h_11 => ?_)
      · refine sv_iload_n (i := 2) dX5_nearestBase_131 rfl rfl ?_
        refine sv_ireturn dX5_nearestBase_132 rfl ?_
        exact ⟨_, rfl, rfl, rfl, rfl, by rw [hb, show i = s by omega], hsq, hk6, hk9⟩
      · have hi1 : i < m 580 := by omega
        have hnm := hw.num h1.1 hi1
        have hfi := hw.frm h1.1 hi1
        have hsli := hw.slot h1.1 hi1
        have h290 : m (29 * i + 0) = m (29 * i) := by rw [show 29 * i + 0 = 29 * i by omega]
        refine sv_aload_n (i := 0) dX5_nearestBase_14 rfl rfl ?_
        refine sv_getR (kz := 15) flX5_34 dX5_nearestBase_15 rfl rfl hsh.lt hsh.k hsh.r9 ?_
        refine sv_iload dX5_nearestBase_18 rfl ?_
        refine sv_zald dX5_nearestBase_20 hsh.l9 hsh.s9 (by omega) ?_
        rw [hk9, hpk i h1.1 (by omega)]
        refine sv_bif_eq (tgt := 125) dX5_nearestBase_21 (by decide) (fun h_21 => ?_) (fun h_21 => ?_)
        · refine sv_iinc dX5_nearestBase_125 rfl (by decide) rfl ?_
          refine sv_goto (tgt := 8) dX5_nearestBase_128 (by decide) ?_
          have hs21 := sp_am_s (p := (fun t => m (29 * t + 1) ≤ m (29 * s + 1) ∧ sp_lk m (m (29 * t)) < m 596 ∧ sp_R m (m (29 * t)) = -1)) (d := (fun t => sp_dn (sp_rz (sp_V m (m (29 * t))) (m (29 * t + 1)) (m (29 * s + 1))) wv (sp_n m s).toNat)) (b := 7) h1.1
          first
            | (exfalso; omega)
            | exact sv_wk (ih bs le (i + 1) f1 (by omega) (by omega) (by rw [hs21, if_neg (by rintro ⟨⟨c1, c2, c3⟩, c4⟩; first | omega | exact absurd c3 (by assumption) | (have c5 : sp_dn (sp_rz (sp_V m (m (29 * i))) (m (29 * i + 1)) (m (29 * s + 1))) wv (sp_n m s).toNat < _ := c4; omega))]; exact hb) (by rw [hs21, if_neg (by rintro ⟨⟨c1, c2, c3⟩, c4⟩; first | omega | exact absurd c3 (by assumption) | (have c5 : sp_dn (sp_rz (sp_V m (m (29 * i))) (m (29 * i + 1)) (m (29 * s + 1))) wv (sp_n m s).toNat < _ := c4; omega))]; exact hle) hsq hk6 hk9) (by simp [sv_sub, sv_ent, sv_lng]) rfl
            | exact sv_wk (ih bs le (i + 1) f2 (by omega) (by omega) (by rw [hs21, if_neg (by rintro ⟨⟨c1, c2, c3⟩, c4⟩; first | omega | exact absurd c3 (by assumption) | (have c5 : sp_dn (sp_rz (sp_V m (m (29 * i))) (m (29 * i + 1)) (m (29 * s + 1))) wv (sp_n m s).toNat < _ := c4; omega))]; exact hb) (by rw [hs21, if_neg (by rintro ⟨⟨c1, c2, c3⟩, c4⟩; first | omega | exact absurd c3 (by assumption) | (have c5 : sp_dn (sp_rz (sp_V m (m (29 * i))) (m (29 * i + 1)) (m (29 * s + 1))) wv (sp_n m s).toNat < _ := c4; omega))]; exact hle) (hsq.trans hq2) (by rw [hl4 _ (by omega) (by omega)]; exact hk6) (by rw [hl4 _ (by omega) (by omega)]; exact hk9)) (by simp [sv_sub, sv_ent, sv_lng]) rfl
            | exact sv_wk (ih bs le (i + 1) f3 (by omega) (by omega) (by rw [hs21, if_neg (by rintro ⟨⟨c1, c2, c3⟩, c4⟩; first | omega | exact absurd c3 (by assumption) | (have c5 : sp_dn (sp_rz (sp_V m (m (29 * i))) (m (29 * i + 1)) (m (29 * s + 1))) wv (sp_n m s).toNat < _ := c4; omega))]; exact hb) (by rw [hs21, if_neg (by rintro ⟨⟨c1, c2, c3⟩, c4⟩; first | omega | exact absurd c3 (by assumption) | (have c5 : sp_dn (sp_rz (sp_V m (m (29 * i))) (m (29 * i + 1)) (m (29 * s + 1))) wv (sp_n m s).toNat < _ := c4; omega))]; exact hle) (hsq.trans (hq2.trans hf3.sq)) (by rw [hf3.w, hl4 _ (by omega) (by omega)]; exact hk6) (by rw [hf3.k, hl4 _ (by omega) (by omega)]; exact hk9)) (by simp [sv_sub, sv_ent, sv_lng]) rfl
            | exact sv_wk (ih bs le (i + 1) f4 (by omega) (by omega) (by rw [hs21, if_neg (by rintro ⟨⟨c1, c2, c3⟩, c4⟩; first | omega | exact absurd c3 (by assumption) | (have c5 : sp_dn (sp_rz (sp_V m (m (29 * i))) (m (29 * i + 1)) (m (29 * s + 1))) wv (sp_n m s).toNat < _ := c4; omega))]; exact hb) (by rw [hs21, if_neg (by rintro ⟨⟨c1, c2, c3⟩, c4⟩; first | omega | exact absurd c3 (by assumption) | (have c5 : sp_dn (sp_rz (sp_V m (m (29 * i))) (m (29 * i + 1)) (m (29 * s + 1))) wv (sp_n m s).toNat < _ := c4; omega))]; exact hle) (hsq.trans q5) q8 q9) (by simp [sv_sub, sv_ent, sv_lng]) rfl
            | exact sv_wk (ih i dd (i + 1) f4 (by omega) (by omega) (by rw [hs21, if_pos (by refine ⟨⟨by omega, by omega, by assumption⟩, ?_⟩; show sp_dn (sp_rz (sp_V m (m (29 * i))) (m (29 * i + 1)) (m (29 * s + 1))) wv (sp_n m s).toNat < _; omega)]) (by rw [hs21, if_pos (by refine ⟨⟨by omega, by omega, by assumption⟩, ?_⟩; show sp_dn (sp_rz (sp_V m (m (29 * i))) (m (29 * i + 1)) (m (29 * s + 1))) wv (sp_n m s).toNat < _; omega)]; exact hdd) (hsq.trans q5) q8 q9) (by simp [sv_sub, sv_ent, sv_lng]) rfl
        · refine sv_aload_n (i := 0) dX5_nearestBase_24 rfl rfl ?_
          refine sv_iload dX5_nearestBase_25 rfl ?_
          refine sv_iconst dX5_nearestBase_27 ?_
          refine sv_vp0 (As := [_, _]) clX5_38 dX5_nearestBase_28 ⟨_, rfl, rfl⟩ (by decide) rfl (Nat.le_of_ble_eq_true rfl) (by decide) (by decide) hsh.lt hsh.k (c_X5_of hsh hm1 _ _ (by omega)) ?_
          refine sv_aload_n (i := 0) dX5_nearestBase_31 rfl rfl ?_
          refine sv_iload_n (i := 1) dX5_nearestBase_32 rfl rfl ?_
          refine sv_iconst dX5_nearestBase_33 ?_
          refine sv_vp0 (As := [_, _]) clX5_38 dX5_nearestBase_34 ⟨_, rfl, rfl⟩ (by decide) rfl (Nat.le_of_ble_eq_true rfl) (by decide) (by decide) hsh.lt hsh.k (c_X5_of hsh hm1 _ _ (by omega)) ?_
          refine sv_icmp_gt (tgt := 125) dX5_nearestBase_37 (by decide) (by first | omega | exact hin _ _ | decide | (simp [sv_u, sv_row]; omega) | (simp [sv_u, sv_row]; exact hin _ _) | exact hin1 _ _ | (simp [sv_u, sv_row]; exact hin1 _ _)) (by first | omega | exact hin _ _ | decide | (simp [sv_u, sv_row]; omega) | (simp [sv_u, sv_row]; exact hin _ _) | exact hin1 _ _ | (simp [sv_u, sv_row]; exact hin1 _ _)) (fun h_37 => ?_) (fun h_37 => ?_)
          · refine sv_iinc dX5_nearestBase_125 rfl (by decide) rfl ?_
            refine sv_goto (tgt := 8) dX5_nearestBase_128 (by decide) ?_
            have hs21 := sp_am_s (p := (fun t => m (29 * t + 1) ≤ m (29 * s + 1) ∧ sp_lk m (m (29 * t)) < m 596 ∧ sp_R m (m (29 * t)) = -1)) (d := (fun t => sp_dn (sp_rz (sp_V m (m (29 * t))) (m (29 * t + 1)) (m (29 * s + 1))) wv (sp_n m s).toNat)) (b := 7) h1.1
            first
              | (exfalso; omega)
              | exact sv_wk (ih bs le (i + 1) f1 (by omega) (by omega) (by rw [hs21, if_neg (by rintro ⟨⟨c1, c2, c3⟩, c4⟩; first | omega | exact absurd c3 (by assumption) | (have c5 : sp_dn (sp_rz (sp_V m (m (29 * i))) (m (29 * i + 1)) (m (29 * s + 1))) wv (sp_n m s).toNat < _ := c4; omega))]; exact hb) (by rw [hs21, if_neg (by rintro ⟨⟨c1, c2, c3⟩, c4⟩; first | omega | exact absurd c3 (by assumption) | (have c5 : sp_dn (sp_rz (sp_V m (m (29 * i))) (m (29 * i + 1)) (m (29 * s + 1))) wv (sp_n m s).toNat < _ := c4; omega))]; exact hle) hsq hk6 hk9) (by simp [sv_sub, sv_ent, sv_lng]) rfl
              | exact sv_wk (ih bs le (i + 1) f2 (by omega) (by omega) (by rw [hs21, if_neg (by rintro ⟨⟨c1, c2, c3⟩, c4⟩; first | omega | exact absurd c3 (by assumption) | (have c5 : sp_dn (sp_rz (sp_V m (m (29 * i))) (m (29 * i + 1)) (m (29 * s + 1))) wv (sp_n m s).toNat < _ := c4; omega))]; exact hb) (by rw [hs21, if_neg (by rintro ⟨⟨c1, c2, c3⟩, c4⟩; first | omega | exact absurd c3 (by assumption) | (have c5 : sp_dn (sp_rz (sp_V m (m (29 * i))) (m (29 * i + 1)) (m (29 * s + 1))) wv (sp_n m s).toNat < _ := c4; omega))]; exact hle) (hsq.trans hq2) (by rw [hl4 _ (by omega) (by omega)]; exact hk6) (by rw [hl4 _ (by omega) (by omega)]; exact hk9)) (by simp [sv_sub, sv_ent, sv_lng]) rfl
              | exact sv_wk (ih bs le (i + 1) f3 (by omega) (by omega) (by rw [hs21, if_neg (by rintro ⟨⟨c1, c2, c3⟩, c4⟩; first | omega | exact absurd c3 (by assumption) | (have c5 : sp_dn (sp_rz (sp_V m (m (29 * i))) (m (29 * i + 1)) (m (29 * s + 1))) wv (sp_n m s).toNat < _ := c4; omega))]; exact hb) (by rw [hs21, if_neg (by rintro ⟨⟨c1, c2, c3⟩, c4⟩; first | omega | exact absurd c3 (by assumption) | (have c5 : sp_dn (sp_rz (sp_V m (m (29 * i))) (m (29 * i + 1)) (m (29 * s + 1))) wv (sp_n m s).toNat < _ := c4; omega))]; exact hle) (hsq.trans (hq2.trans hf3.sq)) (by rw [hf3.w, hl4 _ (by omega) (by omega)]; exact hk6) (by rw [hf3.k, hl4 _ (by omega) (by omega)]; exact hk9)) (by simp [sv_sub, sv_ent, sv_lng]) rfl
              | exact sv_wk (ih bs le (i + 1) f4 (by omega) (by omega) (by rw [hs21, if_neg (by rintro ⟨⟨c1, c2, c3⟩, c4⟩; first | omega | exact absurd c3 (by assumption) | (have c5 : sp_dn (sp_rz (sp_V m (m (29 * i))) (m (29 * i + 1)) (m (29 * s + 1))) wv (sp_n m s).toNat < _ := c4; omega))]; exact hb) (by rw [hs21, if_neg (by rintro ⟨⟨c1, c2, c3⟩, c4⟩; first | omega | exact absurd c3 (by assumption) | (have c5 : sp_dn (sp_rz (sp_V m (m (29 * i))) (m (29 * i + 1)) (m (29 * s + 1))) wv (sp_n m s).toNat < _ := c4; omega))]; exact hle) (hsq.trans q5) q8 q9) (by simp [sv_sub, sv_ent, sv_lng]) rfl
              | exact sv_wk (ih i dd (i + 1) f4 (by omega) (by omega) (by rw [hs21, if_pos (by refine ⟨⟨by omega, by omega, by assumption⟩, ?_⟩; show sp_dn (sp_rz (sp_V m (m (29 * i))) (m (29 * i + 1)) (m (29 * s + 1))) wv (sp_n m s).toNat < _; omega)]) (by rw [hs21, if_pos (by refine ⟨⟨by omega, by omega, by assumption⟩, ?_⟩; show sp_dn (sp_rz (sp_V m (m (29 * i))) (m (29 * i + 1)) (m (29 * s + 1))) wv (sp_n m s).toNat < _; omega)]; exact hdd) (hsq.trans q5) q8 q9) (by simp [sv_sub, sv_ent, sv_lng]) rfl
          · refine sv_aload_n (i := 0) dX5_nearestBase_40 rfl rfl ?_
            refine sv_aload_n (i := 0) dX5_nearestBase_41 rfl rfl ?_
            refine sv_iload dX5_nearestBase_42 rfl ?_
            refine sv_iconst dX5_nearestBase_44 ?_
            refine sv_vp0 (As := [_, _]) clX5_38 dX5_nearestBase_45 ⟨_, rfl, rfl⟩ (by decide) rfl (Nat.le_of_ble_eq_true rfl) (by decide) (by decide) hsh.lt hsh.k (c_X5_of hsh hm1 _ _ (by omega)) ?_
            rw [h290]
            refine sv_vi0 (As := [_]) clX5_173 dX5_nearestBase_48 ⟨_, rfl, rfl⟩ (by decide) rfl (Nat.le_of_ble_eq_true rfl) (by decide) (by decide) hsh.lt hsh.k (c_X5_linksOf hsh hm1 hw _ (by omega)) (fun l f2 hf2 => ?_)
            obtain ⟨hl1, hl2, hl3, hl4, hl5⟩ := hf2
            have hq2 : sp_sq o f1 f2 := ⟨fun x a1 a2 a3 a4 a5 a6 a7 => hl4 x a1 a3, hl5 2 (by omega), hl5 10 (by omega)⟩
            have hm2 : f2 (o + 1) = m := hq2.m.trans hm1
            refine sv_aload_n (i := 0) dX5_nearestBase_51 rfl rfl ?_
            refine sv_getR (kz := 0) flX5_7 dX5_nearestBase_52 rfl rfl hsh.lt hsh.k hsh.r1 ?_
            refine sv_sipush dX5_nearestBase_55 (by decide) ?_
            refine sv_iald dX5_nearestBase_58 hsh.l1 hsh.s1 (by omega) ?_
            rw [hm2]
            refine sv_icmp_ge (tgt := 125) dX5_nearestBase_59 (by decide) (by first | omega | exact hin _ _ | decide | (simp [sv_u, sv_row]; omega) | (simp [sv_u, sv_row]; exact hin _ _) | exact hin1 _ _ | (simp [sv_u, sv_row]; exact hin1 _ _)) (by first | omega | exact hin _ _ | decide | (simp [sv_u, sv_row]; omega) | (simp [sv_u, sv_row]; exact hin _ _) | exact hin1 _ _ | (simp [sv_u, sv_row]; exact hin1 _ _)) (fun h_59 => ?_) (fun h_59 => ?_)
            · refine sv_iinc dX5_nearestBase_125 rfl (by decide) rfl ?_
              refine sv_goto (tgt := 8) dX5_nearestBase_128 (by decide) ?_
              have hs21 := sp_am_s (p := (fun t => m (29 * t + 1) ≤ m (29 * s + 1) ∧ sp_lk m (m (29 * t)) < m 596 ∧ sp_R m (m (29 * t)) = -1)) (d := (fun t => sp_dn (sp_rz (sp_V m (m (29 * t))) (m (29 * t + 1)) (m (29 * s + 1))) wv (sp_n m s).toNat)) (b := 7) h1.1
              first
                | (exfalso; omega)
                | exact sv_wk (ih bs le (i + 1) f1 (by omega) (by omega) (by rw [hs21, if_neg (by rintro ⟨⟨c1, c2, c3⟩, c4⟩; first | omega | exact absurd c3 (by assumption) | (have c5 : sp_dn (sp_rz (sp_V m (m (29 * i))) (m (29 * i + 1)) (m (29 * s + 1))) wv (sp_n m s).toNat < _ := c4; omega))]; exact hb) (by rw [hs21, if_neg (by rintro ⟨⟨c1, c2, c3⟩, c4⟩; first | omega | exact absurd c3 (by assumption) | (have c5 : sp_dn (sp_rz (sp_V m (m (29 * i))) (m (29 * i + 1)) (m (29 * s + 1))) wv (sp_n m s).toNat < _ := c4; omega))]; exact hle) hsq hk6 hk9) (by simp [sv_sub, sv_ent, sv_lng]) rfl
                | exact sv_wk (ih bs le (i + 1) f2 (by omega) (by omega) (by rw [hs21, if_neg (by rintro ⟨⟨c1, c2, c3⟩, c4⟩; first | omega | exact absurd c3 (by assumption) | (have c5 : sp_dn (sp_rz (sp_V m (m (29 * i))) (m (29 * i + 1)) (m (29 * s + 1))) wv (sp_n m s).toNat < _ := c4; omega))]; exact hb) (by rw [hs21, if_neg (by rintro ⟨⟨c1, c2, c3⟩, c4⟩; first | omega | exact absurd c3 (by assumption) | (have c5 : sp_dn (sp_rz (sp_V m (m (29 * i))) (m (29 * i + 1)) (m (29 * s + 1))) wv (sp_n m s).toNat < _ := c4; omega))]; exact hle) (hsq.trans hq2) (by rw [hl4 _ (by omega) (by omega)]; exact hk6) (by rw [hl4 _ (by omega) (by omega)]; exact hk9)) (by simp [sv_sub, sv_ent, sv_lng]) rfl
                | exact sv_wk (ih bs le (i + 1) f3 (by omega) (by omega) (by rw [hs21, if_neg (by rintro ⟨⟨c1, c2, c3⟩, c4⟩; first | omega | exact absurd c3 (by assumption) | (have c5 : sp_dn (sp_rz (sp_V m (m (29 * i))) (m (29 * i + 1)) (m (29 * s + 1))) wv (sp_n m s).toNat < _ := c4; omega))]; exact hb) (by rw [hs21, if_neg (by rintro ⟨⟨c1, c2, c3⟩, c4⟩; first | omega | exact absurd c3 (by assumption) | (have c5 : sp_dn (sp_rz (sp_V m (m (29 * i))) (m (29 * i + 1)) (m (29 * s + 1))) wv (sp_n m s).toNat < _ := c4; omega))]; exact hle) (hsq.trans (hq2.trans hf3.sq)) (by rw [hf3.w, hl4 _ (by omega) (by omega)]; exact hk6) (by rw [hf3.k, hl4 _ (by omega) (by omega)]; exact hk9)) (by simp [sv_sub, sv_ent, sv_lng]) rfl
                | exact sv_wk (ih bs le (i + 1) f4 (by omega) (by omega) (by rw [hs21, if_neg (by rintro ⟨⟨c1, c2, c3⟩, c4⟩; first | omega | exact absurd c3 (by assumption) | (have c5 : sp_dn (sp_rz (sp_V m (m (29 * i))) (m (29 * i + 1)) (m (29 * s + 1))) wv (sp_n m s).toNat < _ := c4; omega))]; exact hb) (by rw [hs21, if_neg (by rintro ⟨⟨c1, c2, c3⟩, c4⟩; first | omega | exact absurd c3 (by assumption) | (have c5 : sp_dn (sp_rz (sp_V m (m (29 * i))) (m (29 * i + 1)) (m (29 * s + 1))) wv (sp_n m s).toNat < _ := c4; omega))]; exact hle) (hsq.trans q5) q8 q9) (by simp [sv_sub, sv_ent, sv_lng]) rfl
                | exact sv_wk (ih i dd (i + 1) f4 (by omega) (by omega) (by rw [hs21, if_pos (by refine ⟨⟨by omega, by omega, by assumption⟩, ?_⟩; show sp_dn (sp_rz (sp_V m (m (29 * i))) (m (29 * i + 1)) (m (29 * s + 1))) wv (sp_n m s).toNat < _; omega)]) (by rw [hs21, if_pos (by refine ⟨⟨by omega, by omega, by assumption⟩, ?_⟩; show sp_dn (sp_rz (sp_V m (m (29 * i))) (m (29 * i + 1)) (m (29 * s + 1))) wv (sp_n m s).toNat < _; omega)]; exact hdd) (hsq.trans q5) q8 q9) (by simp [sv_sub, sv_ent, sv_lng]) rfl
            · refine sv_aload_n (i := 0) dX5_nearestBase_62 rfl rfl ?_
              refine sv_aload_n (i := 0) dX5_nearestBase_63 rfl rfl ?_
              refine sv_iload dX5_nearestBase_64 rfl ?_
              refine sv_iconst dX5_nearestBase_66 ?_
              refine sv_vp0 (As := [_, _]) clX5_38 dX5_nearestBase_67 ⟨_, rfl, rfl⟩ (by decide) rfl (Nat.le_of_ble_eq_true rfl) (by decide) (by decide) hsh.lt hsh.k (c_X5_of hsh hm2 _ _ (by omega)) ?_
              rw [h290]
              refine sv_vi0 (As := [_]) clX5_152 dX5_nearestBase_70 ⟨_, rfl, rfl⟩ (by decide) rfl (Nat.le_of_ble_eq_true rfl) (by decide) (by decide) hsh.lt hsh.k (c_X5_reads hsh hm2 hw _ (by omega)) (fun a f3 hf3 => ?_)
              obtain ⟨ha3, hf3⟩ := hf3
              subst ha3
              refine sv_bif_eq (tgt := 125) dX5_nearestBase_73 (by decide) (fun h_73 => ?_) (fun h_73 => ?_)
              · refine sv_iinc dX5_nearestBase_125 rfl (by decide) rfl ?_
                refine sv_goto (tgt := 8) dX5_nearestBase_128 (by decide) ?_
                have hs21 := sp_am_s (p := (fun t => m (29 * t + 1) ≤ m (29 * s + 1) ∧ sp_lk m (m (29 * t)) < m 596 ∧ sp_R m (m (29 * t)) = -1)) (d := (fun t => sp_dn (sp_rz (sp_V m (m (29 * t))) (m (29 * t + 1)) (m (29 * s + 1))) wv (sp_n m s).toNat)) (b := 7) h1.1
                first
                  | (exfalso; omega)
                  | exact sv_wk (ih bs le (i + 1) f1 (by omega) (by omega) (by rw [hs21, if_neg (by rintro ⟨⟨c1, c2, c3⟩, c4⟩; first | omega | exact absurd c3 (by assumption) | (have c5 : sp_dn (sp_rz (sp_V m (m (29 * i))) (m (29 * i + 1)) (m (29 * s + 1))) wv (sp_n m s).toNat < _ := c4; omega))]; exact hb) (by rw [hs21, if_neg (by rintro ⟨⟨c1, c2, c3⟩, c4⟩; first | omega | exact absurd c3 (by assumption) | (have c5 : sp_dn (sp_rz (sp_V m (m (29 * i))) (m (29 * i + 1)) (m (29 * s + 1))) wv (sp_n m s).toNat < _ := c4; omega))]; exact hle) hsq hk6 hk9) (by simp [sv_sub, sv_ent, sv_lng]) rfl
                  | exact sv_wk (ih bs le (i + 1) f2 (by omega) (by omega) (by rw [hs21, if_neg (by rintro ⟨⟨c1, c2, c3⟩, c4⟩; first | omega | exact absurd c3 (by assumption) | (have c5 : sp_dn (sp_rz (sp_V m (m (29 * i))) (m (29 * i + 1)) (m (29 * s + 1))) wv (sp_n m s).toNat < _ := c4; omega))]; exact hb) (by rw [hs21, if_neg (by rintro ⟨⟨c1, c2, c3⟩, c4⟩; first | omega | exact absurd c3 (by assumption) | (have c5 : sp_dn (sp_rz (sp_V m (m (29 * i))) (m (29 * i + 1)) (m (29 * s + 1))) wv (sp_n m s).toNat < _ := c4; omega))]; exact hle) (hsq.trans hq2) (by rw [hl4 _ (by omega) (by omega)]; exact hk6) (by rw [hl4 _ (by omega) (by omega)]; exact hk9)) (by simp [sv_sub, sv_ent, sv_lng]) rfl
                  | exact sv_wk (ih bs le (i + 1) f3 (by omega) (by omega) (by rw [hs21, if_neg (by rintro ⟨⟨c1, c2, c3⟩, c4⟩; first | omega | exact absurd c3 (by assumption) | (have c5 : sp_dn (sp_rz (sp_V m (m (29 * i))) (m (29 * i + 1)) (m (29 * s + 1))) wv (sp_n m s).toNat < _ := c4; omega))]; exact hb) (by rw [hs21, if_neg (by rintro ⟨⟨c1, c2, c3⟩, c4⟩; first | omega | exact absurd c3 (by assumption) | (have c5 : sp_dn (sp_rz (sp_V m (m (29 * i))) (m (29 * i + 1)) (m (29 * s + 1))) wv (sp_n m s).toNat < _ := c4; omega))]; exact hle) (hsq.trans (hq2.trans hf3.sq)) (by rw [hf3.w, hl4 _ (by omega) (by omega)]; exact hk6) (by rw [hf3.k, hl4 _ (by omega) (by omega)]; exact hk9)) (by simp [sv_sub, sv_ent, sv_lng]) rfl
                  | exact sv_wk (ih bs le (i + 1) f4 (by omega) (by omega) (by rw [hs21, if_neg (by rintro ⟨⟨c1, c2, c3⟩, c4⟩; first | omega | exact absurd c3 (by assumption) | (have c5 : sp_dn (sp_rz (sp_V m (m (29 * i))) (m (29 * i + 1)) (m (29 * s + 1))) wv (sp_n m s).toNat < _ := c4; omega))]; exact hb) (by rw [hs21, if_neg (by rintro ⟨⟨c1, c2, c3⟩, c4⟩; first | omega | exact absurd c3 (by assumption) | (have c5 : sp_dn (sp_rz (sp_V m (m (29 * i))) (m (29 * i + 1)) (m (29 * s + 1))) wv (sp_n m s).toNat < _ := c4; omega))]; exact hle) (hsq.trans q5) q8 q9) (by simp [sv_sub, sv_ent, sv_lng]) rfl
                  | exact sv_wk (ih i dd (i + 1) f4 (by omega) (by omega) (by rw [hs21, if_pos (by refine ⟨⟨by omega, by omega, by assumption⟩, ?_⟩; show sp_dn (sp_rz (sp_V m (m (29 * i))) (m (29 * i + 1)) (m (29 * s + 1))) wv (sp_n m s).toNat < _; omega)]) (by rw [hs21, if_pos (by refine ⟨⟨by omega, by omega, by assumption⟩, ?_⟩; show sp_dn (sp_rz (sp_V m (m (29 * i))) (m (29 * i + 1)) (m (29 * s + 1))) wv (sp_n m s).toNat < _; omega)]; exact hdd) (hsq.trans q5) q8 q9) (by simp [sv_sub, sv_ent, sv_lng]) rfl
              · obtain ⟨z1, z2⟩ := hf3.2.2.1 (by assumption)
                rw [hsli] at z1 z2
                have hokv := sp_V_ok' hw (n := m (29 * i)) (by assumption)
                rw [hsli] at hokv
                have hok3 : sp_ok (f3 (o + 3)) (6 + 2 * f3 o 4) := fun j a1 a2 => by
                  rw [z1] at a2
                  rw [z2 j a1 a2]
                  exact hokv j a1 a2
                have hfm3 : 1 ≤ f3 o 4 ∧ f3 o 4 ≤ 3 := by rw [z1]; exact hfi
                refine sv_aload_n (i := 0) dX5_nearestBase_76 rfl rfl ?_
                refine sv_aload_n (i := 0) dX5_nearestBase_77 rfl rfl ?_
                refine sv_iload_n (i := 1) dX5_nearestBase_78 rfl rfl ?_
                refine sv_iconst dX5_nearestBase_79 ?_
                refine sv_vp0 (As := [_, _]) clX5_38 dX5_nearestBase_80 ⟨_, rfl, rfl⟩ (by decide) rfl (Nat.le_of_ble_eq_true rfl) (by decide) (by decide) hsh.lt hsh.k (c_X5_of hsh (hf3.m.trans hm2) _ _ (by omega)) ?_
                refine sv_vv0 (As := [_]) clX5_70 dX5_nearestBase_83 ⟨_, rfl, rfl⟩ (by decide) rfl (Nat.le_of_ble_eq_true rfl) (by decide) (by decide) hsh.lt hsh.k (c_X5_raisesTo hsh _ (by omega) (by omega) hfm3 (fun _ => hok3)) (fun f4 hf4 => ?_)
                have q5 : sp_sq o f1 f4 := (hq2.trans hf3.sq).trans (by subst hf4; exact ⟨fun x a1 a2 a3 a4 a5 a6 a7 => by rw [sv_u_ne a1, sv_row_ne a2], by simp [sv_u, sv_row], by simp [sv_u, sv_row]⟩)
                have q4 : f4 o 4 = m (29 * s + 1) := by subst hf4; simp [sv_u]; rw [z1]; omega
                have q6 : ∀ j, 0 ≤ j → j < sp_n m s → f4 (o + 3) j = sp_rz (sp_V m (m (29 * i))) (m (29 * i + 1)) (m (29 * s + 1)) j := fun j a1 a2 => by
                  unfold sp_n at a2
                  subst hf4
                  rw [sv_u_ne (by omega), sv_row_eq, z1]
                  exact sp_rz_congr hfi.1 (by omega) hfs.2 z2 j a1 a2
                have q8 : f4 (o + 6) = f (o + 6) := by subst hf4; rw [sv_u_ne (by omega), sv_row_ne (by omega), hf3.w, hl4 _ (by omega) (by omega), hk6]
                have q9 : f4 (o + 9) = f (o + 9) := by subst hf4; rw [sv_u_ne (by omega), sv_row_ne (by omega), hf3.k, hl4 _ (by omega) (by omega), hk9]
                have hfin : sp_dn (f4 (o + 3)) (f4 (o + 6)) (6 + 2 * m (29 * s + 1)).toNat = sp_dn (sp_rz (sp_V m (m (29 * i))) (m (29 * i + 1)) (m (29 * s + 1))) wv (sp_n m s).toNat := sp_dn_congr (n := sp_n m s) q6 (fun j a1 a2 => by rw [q8]; exact hwv j a1 a2)
                obtain ⟨dd, hdd⟩ : ∃ dd, dd = sp_dn (sp_rz (sp_V m (m (29 * i))) (m (29 * i + 1)) (m (29 * s + 1))) wv (sp_n m s).toNat := ⟨_, rfl⟩
                have hddi : 0 ≤ dd ∧ dd ≤ 12 := by
                  have := sp_dn_in (sp_rz (sp_V m (m (29 * i))) (m (29 * i + 1)) (m (29 * s + 1))) wv (sp_n m s).toNat
                  unfold sp_n at this hdd
                  omega
                refine sv_aload_n (i := 0) dX5_nearestBase_86 rfl rfl ?_
                refine sv_aload_n (i := 0) dX5_nearestBase_87 rfl rfl ?_
                refine sv_getI (kz := 4) flX5_46 dX5_nearestBase_88 rfl rfl hsh.lt hsh.k ?_
                rw [q4]
                refine sv_sp0 (As := [_]) clX5_52 dX5_nearestBase_91 rfl (Nat.le_of_ble_eq_true rfl) (by decide) (by decide) (c_X5_valuesOf _) ?_
                refine sv_vp0 (As := [_]) clX5_155 dX5_nearestBase_94 ⟨_, rfl, rfl⟩ (by decide) rfl (Nat.le_of_ble_eq_true rfl) (by decide) (by decide) hsh.lt hsh.k (c_X5_differences hsh _ (by omega)) ?_
                rw [hfin, ← hdd]
                refine sv_istore dX5_nearestBase_97 (by decide) rfl ?_
                refine sv_iload dX5_nearestBase_99 rfl ?_
                refine sv_iload_n (i := 3) dX5_nearestBase_101 rfl rfl ?_
                refine sv_icmp_ge (tgt := 110) dX5_nearestBase_102 (by decide) (by first | omega | exact hin _ _ | decide | (simp [sv_u, sv_row]; omega) | (simp [sv_u, sv_row]; exact hin _ _) | exact hin1 _ _ | (simp [sv_u, sv_row]; exact hin1 _ _)) (by first | omega | exact hin _ _ | decide | (simp [sv_u, sv_row]; omega) | (simp [sv_u, sv_row]; exact hin _ _) | exact hin1 _ _ | (simp [sv_u, sv_row]; exact hin1 _ _)) (fun h_102 => ?_) (fun h_102 => ?_)
                · refine sv_iload_n (i := 2) dX5_nearestBase_110 rfl rfl ?_
                  refine sv_istore_n (i := 2) dX5_nearestBase_111 rfl (by decide) rfl ?_
                  refine sv_iload dX5_nearestBase_112 rfl ?_
                  refine sv_iload_n (i := 3) dX5_nearestBase_114 rfl rfl ?_
                  refine sv_icmp_ge (tgt := 123) dX5_nearestBase_115 (by decide) (by first | omega | exact hin _ _ | decide | (simp [sv_u, sv_row]; omega) | (simp [sv_u, sv_row]; exact hin _ _) | exact hin1 _ _ | (simp [sv_u, sv_row]; exact hin1 _ _)) (by first | omega | exact hin _ _ | decide | (simp [sv_u, sv_row]; omega) | (simp [sv_u, sv_row]; exact hin _ _) | exact hin1 _ _ | (simp [sv_u, sv_row]; exact hin1 _ _)) (fun h_115 => ?_) (fun h_115 => ?_)
                  · refine sv_iload_n (i := 3) dX5_nearestBase_123 rfl rfl ?_
                    refine sv_istore_n (i := 3) dX5_nearestBase_124 rfl (by decide) rfl ?_
                    refine sv_iinc dX5_nearestBase_125 rfl (by decide) rfl ?_
                    refine sv_goto (tgt := 8) dX5_nearestBase_128 (by decide) ?_
                    have hs21 := sp_am_s (p := (fun t => m (29 * t + 1) ≤ m (29 * s + 1) ∧ sp_lk m (m (29 * t)) < m 596 ∧ sp_R m (m (29 * t)) = -1)) (d := (fun t => sp_dn (sp_rz (sp_V m (m (29 * t))) (m (29 * t + 1)) (m (29 * s + 1))) wv (sp_n m s).toNat)) (b := 7) h1.1
                    first
                      | (exfalso; omega)
                      | exact sv_wk (ih bs le (i + 1) f1 (by omega) (by omega) (by rw [hs21, if_neg (by rintro ⟨⟨c1, c2, c3⟩, c4⟩; first | omega | exact absurd c3 (by assumption) | (have c5 : sp_dn (sp_rz (sp_V m (m (29 * i))) (m (29 * i + 1)) (m (29 * s + 1))) wv (sp_n m s).toNat < _ := c4; omega))]; exact hb) (by rw [hs21, if_neg (by rintro ⟨⟨c1, c2, c3⟩, c4⟩; first | omega | exact absurd c3 (by assumption) | (have c5 : sp_dn (sp_rz (sp_V m (m (29 * i))) (m (29 * i + 1)) (m (29 * s + 1))) wv (sp_n m s).toNat < _ := c4; omega))]; exact hle) hsq hk6 hk9) (by simp [sv_sub, sv_ent, sv_lng]) rfl
                      | exact sv_wk (ih bs le (i + 1) f2 (by omega) (by omega) (by rw [hs21, if_neg (by rintro ⟨⟨c1, c2, c3⟩, c4⟩; first | omega | exact absurd c3 (by assumption) | (have c5 : sp_dn (sp_rz (sp_V m (m (29 * i))) (m (29 * i + 1)) (m (29 * s + 1))) wv (sp_n m s).toNat < _ := c4; omega))]; exact hb) (by rw [hs21, if_neg (by rintro ⟨⟨c1, c2, c3⟩, c4⟩; first | omega | exact absurd c3 (by assumption) | (have c5 : sp_dn (sp_rz (sp_V m (m (29 * i))) (m (29 * i + 1)) (m (29 * s + 1))) wv (sp_n m s).toNat < _ := c4; omega))]; exact hle) (hsq.trans hq2) (by rw [hl4 _ (by omega) (by omega)]; exact hk6) (by rw [hl4 _ (by omega) (by omega)]; exact hk9)) (by simp [sv_sub, sv_ent, sv_lng]) rfl
                      | exact sv_wk (ih bs le (i + 1) f3 (by omega) (by omega) (by rw [hs21, if_neg (by rintro ⟨⟨c1, c2, c3⟩, c4⟩; first | omega | exact absurd c3 (by assumption) | (have c5 : sp_dn (sp_rz (sp_V m (m (29 * i))) (m (29 * i + 1)) (m (29 * s + 1))) wv (sp_n m s).toNat < _ := c4; omega))]; exact hb) (by rw [hs21, if_neg (by rintro ⟨⟨c1, c2, c3⟩, c4⟩; first | omega | exact absurd c3 (by assumption) | (have c5 : sp_dn (sp_rz (sp_V m (m (29 * i))) (m (29 * i + 1)) (m (29 * s + 1))) wv (sp_n m s).toNat < _ := c4; omega))]; exact hle) (hsq.trans (hq2.trans hf3.sq)) (by rw [hf3.w, hl4 _ (by omega) (by omega)]; exact hk6) (by rw [hf3.k, hl4 _ (by omega) (by omega)]; exact hk9)) (by simp [sv_sub, sv_ent, sv_lng]) rfl
                      | exact sv_wk (ih bs le (i + 1) f4 (by omega) (by omega) (by rw [hs21, if_neg (by rintro ⟨⟨c1, c2, c3⟩, c4⟩; first | omega | exact absurd c3 (by assumption) | (have c5 : sp_dn (sp_rz (sp_V m (m (29 * i))) (m (29 * i + 1)) (m (29 * s + 1))) wv (sp_n m s).toNat < _ := c4; omega))]; exact hb) (by rw [hs21, if_neg (by rintro ⟨⟨c1, c2, c3⟩, c4⟩; first | omega | exact absurd c3 (by assumption) | (have c5 : sp_dn (sp_rz (sp_V m (m (29 * i))) (m (29 * i + 1)) (m (29 * s + 1))) wv (sp_n m s).toNat < _ := c4; omega))]; exact hle) (hsq.trans q5) q8 q9) (by simp [sv_sub, sv_ent, sv_lng]) rfl
                      | exact sv_wk (ih i dd (i + 1) f4 (by omega) (by omega) (by rw [hs21, if_pos (by refine ⟨⟨by omega, by omega, by assumption⟩, ?_⟩; show sp_dn (sp_rz (sp_V m (m (29 * i))) (m (29 * i + 1)) (m (29 * s + 1))) wv (sp_n m s).toNat < _; omega)]) (by rw [hs21, if_pos (by refine ⟨⟨by omega, by omega, by assumption⟩, ?_⟩; show sp_dn (sp_rz (sp_V m (m (29 * i))) (m (29 * i + 1)) (m (29 * s + 1))) wv (sp_n m s).toNat < _; omega)]; exact hdd) (hsq.trans q5) q8 q9) (by simp [sv_sub, sv_ent, sv_lng]) rfl
                  · refine sv_iload dX5_nearestBase_118 rfl ?_
                    refine sv_goto (tgt := 124) dX5_nearestBase_120 (by decide) ?_
                    refine sv_istore_n (i := 3) dX5_nearestBase_124 rfl (by decide) rfl ?_
                    refine sv_iinc dX5_nearestBase_125 rfl (by decide) rfl ?_
                    refine sv_goto (tgt := 8) dX5_nearestBase_128 (by decide) ?_
                    have hs21 := sp_am_s (p := (fun t => m (29 * t + 1) ≤ m (29 * s + 1) ∧ sp_lk m (m (29 * t)) < m 596 ∧ sp_R m (m (29 * t)) = -1)) (d := (fun t => sp_dn (sp_rz (sp_V m (m (29 * t))) (m (29 * t + 1)) (m (29 * s + 1))) wv (sp_n m s).toNat)) (b := 7) h1.1
                    first
                      | (exfalso; omega)
                      | exact sv_wk (ih bs le (i + 1) f1 (by omega) (by omega) (by rw [hs21, if_neg (by rintro ⟨⟨c1, c2, c3⟩, c4⟩; first | omega | exact absurd c3 (by assumption) | (have c5 : sp_dn (sp_rz (sp_V m (m (29 * i))) (m (29 * i + 1)) (m (29 * s + 1))) wv (sp_n m s).toNat < _ := c4; omega))]; exact hb) (by rw [hs21, if_neg (by rintro ⟨⟨c1, c2, c3⟩, c4⟩; first | omega | exact absurd c3 (by assumption) | (have c5 : sp_dn (sp_rz (sp_V m (m (29 * i))) (m (29 * i + 1)) (m (29 * s + 1))) wv (sp_n m s).toNat < _ := c4; omega))]; exact hle) hsq hk6 hk9) (by simp [sv_sub, sv_ent, sv_lng]) rfl
                      | exact sv_wk (ih bs le (i + 1) f2 (by omega) (by omega) (by rw [hs21, if_neg (by rintro ⟨⟨c1, c2, c3⟩, c4⟩; first | omega | exact absurd c3 (by assumption) | (have c5 : sp_dn (sp_rz (sp_V m (m (29 * i))) (m (29 * i + 1)) (m (29 * s + 1))) wv (sp_n m s).toNat < _ := c4; omega))]; exact hb) (by rw [hs21, if_neg (by rintro ⟨⟨c1, c2, c3⟩, c4⟩; first | omega | exact absurd c3 (by assumption) | (have c5 : sp_dn (sp_rz (sp_V m (m (29 * i))) (m (29 * i + 1)) (m (29 * s + 1))) wv (sp_n m s).toNat < _ := c4; omega))]; exact hle) (hsq.trans hq2) (by rw [hl4 _ (by omega) (by omega)]; exact hk6) (by rw [hl4 _ (by omega) (by omega)]; exact hk9)) (by simp [sv_sub, sv_ent, sv_lng]) rfl
                      | exact sv_wk (ih bs le (i + 1) f3 (by omega) (by omega) (by rw [hs21, if_neg (by rintro ⟨⟨c1, c2, c3⟩, c4⟩; first | omega | exact absurd c3 (by assumption) | (have c5 : sp_dn (sp_rz (sp_V m (m (29 * i))) (m (29 * i + 1)) (m (29 * s + 1))) wv (sp_n m s).toNat < _ := c4; omega))]; exact hb) (by rw [hs21, if_neg (by rintro ⟨⟨c1, c2, c3⟩, c4⟩; first | omega | exact absurd c3 (by assumption) | (have c5 : sp_dn (sp_rz (sp_V m (m (29 * i))) (m (29 * i + 1)) (m (29 * s + 1))) wv (sp_n m s).toNat < _ := c4; omega))]; exact hle) (hsq.trans (hq2.trans hf3.sq)) (by rw [hf3.w, hl4 _ (by omega) (by omega)]; exact hk6) (by rw [hf3.k, hl4 _ (by omega) (by omega)]; exact hk9)) (by simp [sv_sub, sv_ent, sv_lng]) rfl
                      | exact sv_wk (ih bs le (i + 1) f4 (by omega) (by omega) (by rw [hs21, if_neg (by rintro ⟨⟨c1, c2, c3⟩, c4⟩; first | omega | exact absurd c3 (by assumption) | (have c5 : sp_dn (sp_rz (sp_V m (m (29 * i))) (m (29 * i + 1)) (m (29 * s + 1))) wv (sp_n m s).toNat < _ := c4; omega))]; exact hb) (by rw [hs21, if_neg (by rintro ⟨⟨c1, c2, c3⟩, c4⟩; first | omega | exact absurd c3 (by assumption) | (have c5 : sp_dn (sp_rz (sp_V m (m (29 * i))) (m (29 * i + 1)) (m (29 * s + 1))) wv (sp_n m s).toNat < _ := c4; omega))]; exact hle) (hsq.trans q5) q8 q9) (by simp [sv_sub, sv_ent, sv_lng]) rfl
                      | exact sv_wk (ih i dd (i + 1) f4 (by omega) (by omega) (by rw [hs21, if_pos (by refine ⟨⟨by omega, by omega, by assumption⟩, ?_⟩; show sp_dn (sp_rz (sp_V m (m (29 * i))) (m (29 * i + 1)) (m (29 * s + 1))) wv (sp_n m s).toNat < _; omega)]) (by rw [hs21, if_pos (by refine ⟨⟨by omega, by omega, by assumption⟩, ?_⟩; show sp_dn (sp_rz (sp_V m (m (29 * i))) (m (29 * i + 1)) (m (29 * s + 1))) wv (sp_n m s).toNat < _; omega)]; exact hdd) (hsq.trans q5) q8 q9) (by simp [sv_sub, sv_ent, sv_lng]) rfl
                · refine sv_iload dX5_nearestBase_105 rfl ?_
                  refine sv_goto (tgt := 111) dX5_nearestBase_107 (by decide) ?_
                  refine sv_istore_n (i := 2) dX5_nearestBase_111 rfl (by decide) rfl ?_
                  refine sv_iload dX5_nearestBase_112 rfl ?_
                  refine sv_iload_n (i := 3) dX5_nearestBase_114 rfl rfl ?_
                  refine sv_icmp_ge (tgt := 123) dX5_nearestBase_115 (by decide) (by first | omega | exact hin _ _ | decide | (simp [sv_u, sv_row]; omega) | (simp [sv_u, sv_row]; exact hin _ _) | exact hin1 _ _ | (simp [sv_u, sv_row]; exact hin1 _ _)) (by first | omega | exact hin _ _ | decide | (simp [sv_u, sv_row]; omega) | (simp [sv_u, sv_row]; exact hin _ _) | exact hin1 _ _ | (simp [sv_u, sv_row]; exact hin1 _ _)) (fun h_115 => ?_) (fun h_115 => ?_)
                  · refine sv_iload_n (i := 3) dX5_nearestBase_123 rfl rfl ?_
                    refine sv_istore_n (i := 3) dX5_nearestBase_124 rfl (by decide) rfl ?_
                    refine sv_iinc dX5_nearestBase_125 rfl (by decide) rfl ?_
                    refine sv_goto (tgt := 8) dX5_nearestBase_128 (by decide) ?_
                    have hs21 := sp_am_s (p := (fun t => m (29 * t + 1) ≤ m (29 * s + 1) ∧ sp_lk m (m (29 * t)) < m 596 ∧ sp_R m (m (29 * t)) = -1)) (d := (fun t => sp_dn (sp_rz (sp_V m (m (29 * t))) (m (29 * t + 1)) (m (29 * s + 1))) wv (sp_n m s).toNat)) (b := 7) h1.1
                    first
                      | (exfalso; omega)
                      | exact sv_wk (ih bs le (i + 1) f1 (by omega) (by omega) (by rw [hs21, if_neg (by rintro ⟨⟨c1, c2, c3⟩, c4⟩; first | omega | exact absurd c3 (by assumption) | (have c5 : sp_dn (sp_rz (sp_V m (m (29 * i))) (m (29 * i + 1)) (m (29 * s + 1))) wv (sp_n m s).toNat < _ := c4; omega))]; exact hb) (by rw [hs21, if_neg (by rintro ⟨⟨c1, c2, c3⟩, c4⟩; first | omega | exact absurd c3 (by assumption) | (have c5 : sp_dn (sp_rz (sp_V m (m (29 * i))) (m (29 * i + 1)) (m (29 * s + 1))) wv (sp_n m s).toNat < _ := c4; omega))]; exact hle) hsq hk6 hk9) (by simp [sv_sub, sv_ent, sv_lng]) rfl
                      | exact sv_wk (ih bs le (i + 1) f2 (by omega) (by omega) (by rw [hs21, if_neg (by rintro ⟨⟨c1, c2, c3⟩, c4⟩; first | omega | exact absurd c3 (by assumption) | (have c5 : sp_dn (sp_rz (sp_V m (m (29 * i))) (m (29 * i + 1)) (m (29 * s + 1))) wv (sp_n m s).toNat < _ := c4; omega))]; exact hb) (by rw [hs21, if_neg (by rintro ⟨⟨c1, c2, c3⟩, c4⟩; first | omega | exact absurd c3 (by assumption) | (have c5 : sp_dn (sp_rz (sp_V m (m (29 * i))) (m (29 * i + 1)) (m (29 * s + 1))) wv (sp_n m s).toNat < _ := c4; omega))]; exact hle) (hsq.trans hq2) (by rw [hl4 _ (by omega) (by omega)]; exact hk6) (by rw [hl4 _ (by omega) (by omega)]; exact hk9)) (by simp [sv_sub, sv_ent, sv_lng]) rfl
                      | exact sv_wk (ih bs le (i + 1) f3 (by omega) (by omega) (by rw [hs21, if_neg (by rintro ⟨⟨c1, c2, c3⟩, c4⟩; first | omega | exact absurd c3 (by assumption) | (have c5 : sp_dn (sp_rz (sp_V m (m (29 * i))) (m (29 * i + 1)) (m (29 * s + 1))) wv (sp_n m s).toNat < _ := c4; omega))]; exact hb) (by rw [hs21, if_neg (by rintro ⟨⟨c1, c2, c3⟩, c4⟩; first | omega | exact absurd c3 (by assumption) | (have c5 : sp_dn (sp_rz (sp_V m (m (29 * i))) (m (29 * i + 1)) (m (29 * s + 1))) wv (sp_n m s).toNat < _ := c4; omega))]; exact hle) (hsq.trans (hq2.trans hf3.sq)) (by rw [hf3.w, hl4 _ (by omega) (by omega)]; exact hk6) (by rw [hf3.k, hl4 _ (by omega) (by omega)]; exact hk9)) (by simp [sv_sub, sv_ent, sv_lng]) rfl
                      | exact sv_wk (ih bs le (i + 1) f4 (by omega) (by omega) (by rw [hs21, if_neg (by rintro ⟨⟨c1, c2, c3⟩, c4⟩; first | omega | exact absurd c3 (by assumption) | (have c5 : sp_dn (sp_rz (sp_V m (m (29 * i))) (m (29 * i + 1)) (m (29 * s + 1))) wv (sp_n m s).toNat < _ := c4; omega))]; exact hb) (by rw [hs21, if_neg (by rintro ⟨⟨c1, c2, c3⟩, c4⟩; first | omega | exact absurd c3 (by assumption) | (have c5 : sp_dn (sp_rz (sp_V m (m (29 * i))) (m (29 * i + 1)) (m (29 * s + 1))) wv (sp_n m s).toNat < _ := c4; omega))]; exact hle) (hsq.trans q5) q8 q9) (by simp [sv_sub, sv_ent, sv_lng]) rfl
                      | exact sv_wk (ih i dd (i + 1) f4 (by omega) (by omega) (by rw [hs21, if_pos (by refine ⟨⟨by omega, by omega, by assumption⟩, ?_⟩; show sp_dn (sp_rz (sp_V m (m (29 * i))) (m (29 * i + 1)) (m (29 * s + 1))) wv (sp_n m s).toNat < _; omega)]) (by rw [hs21, if_pos (by refine ⟨⟨by omega, by omega, by assumption⟩, ?_⟩; show sp_dn (sp_rz (sp_V m (m (29 * i))) (m (29 * i + 1)) (m (29 * s + 1))) wv (sp_n m s).toNat < _; omega)]; exact hdd) (hsq.trans q5) q8 q9) (by simp [sv_sub, sv_ent, sv_lng]) rfl
                  · refine sv_iload dX5_nearestBase_118 rfl ?_
                    refine sv_goto (tgt := 124) dX5_nearestBase_120 (by decide) ?_
                    refine sv_istore_n (i := 3) dX5_nearestBase_124 rfl (by decide) rfl ?_
                    refine sv_iinc dX5_nearestBase_125 rfl (by decide) rfl ?_
                    refine sv_goto (tgt := 8) dX5_nearestBase_128 (by decide) ?_
                    have hs21 := sp_am_s (p := (fun t => m (29 * t + 1) ≤ m (29 * s + 1) ∧ sp_lk m (m (29 * t)) < m 596 ∧ sp_R m (m (29 * t)) = -1)) (d := (fun t => sp_dn (sp_rz (sp_V m (m (29 * t))) (m (29 * t + 1)) (m (29 * s + 1))) wv (sp_n m s).toNat)) (b := 7) h1.1
                    first
                      | (exfalso; omega)
                      | exact sv_wk (ih bs le (i + 1) f1 (by omega) (by omega) (by rw [hs21, if_neg (by rintro ⟨⟨c1, c2, c3⟩, c4⟩; first | omega | exact absurd c3 (by assumption) | (have c5 : sp_dn (sp_rz (sp_V m (m (29 * i))) (m (29 * i + 1)) (m (29 * s + 1))) wv (sp_n m s).toNat < _ := c4; omega))]; exact hb) (by rw [hs21, if_neg (by rintro ⟨⟨c1, c2, c3⟩, c4⟩; first | omega | exact absurd c3 (by assumption) | (have c5 : sp_dn (sp_rz (sp_V m (m (29 * i))) (m (29 * i + 1)) (m (29 * s + 1))) wv (sp_n m s).toNat < _ := c4; omega))]; exact hle) hsq hk6 hk9) (by simp [sv_sub, sv_ent, sv_lng]) rfl
                      | exact sv_wk (ih bs le (i + 1) f2 (by omega) (by omega) (by rw [hs21, if_neg (by rintro ⟨⟨c1, c2, c3⟩, c4⟩; first | omega | exact absurd c3 (by assumption) | (have c5 : sp_dn (sp_rz (sp_V m (m (29 * i))) (m (29 * i + 1)) (m (29 * s + 1))) wv (sp_n m s).toNat < _ := c4; omega))]; exact hb) (by rw [hs21, if_neg (by rintro ⟨⟨c1, c2, c3⟩, c4⟩; first | omega | exact absurd c3 (by assumption) | (have c5 : sp_dn (sp_rz (sp_V m (m (29 * i))) (m (29 * i + 1)) (m (29 * s + 1))) wv (sp_n m s).toNat < _ := c4; omega))]; exact hle) (hsq.trans hq2) (by rw [hl4 _ (by omega) (by omega)]; exact hk6) (by rw [hl4 _ (by omega) (by omega)]; exact hk9)) (by simp [sv_sub, sv_ent, sv_lng]) rfl
                      | exact sv_wk (ih bs le (i + 1) f3 (by omega) (by omega) (by rw [hs21, if_neg (by rintro ⟨⟨c1, c2, c3⟩, c4⟩; first | omega | exact absurd c3 (by assumption) | (have c5 : sp_dn (sp_rz (sp_V m (m (29 * i))) (m (29 * i + 1)) (m (29 * s + 1))) wv (sp_n m s).toNat < _ := c4; omega))]; exact hb) (by rw [hs21, if_neg (by rintro ⟨⟨c1, c2, c3⟩, c4⟩; first | omega | exact absurd c3 (by assumption) | (have c5 : sp_dn (sp_rz (sp_V m (m (29 * i))) (m (29 * i + 1)) (m (29 * s + 1))) wv (sp_n m s).toNat < _ := c4; omega))]; exact hle) (hsq.trans (hq2.trans hf3.sq)) (by rw [hf3.w, hl4 _ (by omega) (by omega)]; exact hk6) (by rw [hf3.k, hl4 _ (by omega) (by omega)]; exact hk9)) (by simp [sv_sub, sv_ent, sv_lng]) rfl
                      | exact sv_wk (ih bs le (i + 1) f4 (by omega) (by omega) (by rw [hs21, if_neg (by rintro ⟨⟨c1, c2, c3⟩, c4⟩; first | omega | exact absurd c3 (by assumption) | (have c5 : sp_dn (sp_rz (sp_V m (m (29 * i))) (m (29 * i + 1)) (m (29 * s + 1))) wv (sp_n m s).toNat < _ := c4; omega))]; exact hb) (by rw [hs21, if_neg (by rintro ⟨⟨c1, c2, c3⟩, c4⟩; first | omega | exact absurd c3 (by assumption) | (have c5 : sp_dn (sp_rz (sp_V m (m (29 * i))) (m (29 * i + 1)) (m (29 * s + 1))) wv (sp_n m s).toNat < _ := c4; omega))]; exact hle) (hsq.trans q5) q8 q9) (by simp [sv_sub, sv_ent, sv_lng]) rfl
                      | exact sv_wk (ih i dd (i + 1) f4 (by omega) (by omega) (by rw [hs21, if_pos (by refine ⟨⟨by omega, by omega, by assumption⟩, ?_⟩; show sp_dn (sp_rz (sp_V m (m (29 * i))) (m (29 * i + 1)) (m (29 * s + 1))) wv (sp_n m s).toNat < _; omega)]) (by rw [hs21, if_pos (by refine ⟨⟨by omega, by omega, by assumption⟩, ?_⟩; show sp_dn (sp_rz (sp_V m (m (29 * i))) (m (29 * i + 1)) (m (29 * s + 1))) wv (sp_n m s).toNat < _; omega)]; exact hdd) (hsq.trans q5) q8 q9) (by simp [sv_sub, sv_ent, sv_lng]) rfl
  refine sv_iconst dX5_nearestBase_0 ?_
  refine sv_istore_n (i := 2) dX5_nearestBase_1 rfl (by decide) rfl ?_
  refine sv_bipush dX5_nearestBase_2 (by decide) ?_
  refine sv_istore_n (i := 3) dX5_nearestBase_4 rfl (by decide) rfl ?_
  refine sv_iconst dX5_nearestBase_5 ?_
  refine sv_istore dX5_nearestBase_6 (by decide) rfl ?_
  exact sv_wk (lp 21 (-1) 7 0 f (by omega) (by omega) rfl rfl sp_sq.rf rfl rfl) (by simp [sv_sub, sv_ent, sv_lng]) rfl
