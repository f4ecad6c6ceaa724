set_option maxRecDepth 100000 in
set_option maxHeartbeats 4000000 in
theorem c_X5_pack {X : sv_X} {S : sv_S} {f : sv_F} {r : sv_R} {g : sv_G} {o : Nat} {m : Int → Int} (hsh : sv_M5 S r o) (hm : f (o + 1) = m) (hw : sp_wt m) (hl : 1 ≤ m 596 ∧ m 596 ≤ 8) (hu : 0 ≤ f o 2 ∧ f o 2 ≤ 6) : sv_C X 5 MX5_pack 0 0 [sv_r o] S f r g (sv_qi (fun a f' => a = sp_wes m - sp_wes (sp_pack m) ∧ sp_chg o f f' ∧ f' (o + 1) = sp_pack m) S r g) := by
  refine sv_met (by decide) (by simp [lg_sl, sv_cv, va_rf, Value.category]) ?_
  refine sv_fr fun hin => ?_
  have hcc := hw.c
  have hcm := hw.cm
  have lp : ∀ (k : Nat) (i : Int) (f1 : sv_F), m 580 - i < (k : Int) → (0 ≤ i ∧ i ≤ m 580) → (sp_chg o f f1) → (f1 (o + 1) = sp_pki m i.toNat) → (∀ t, 0 ≤ t → t < i → f1 (o + 9) t = if sp_R m (m (29 * t)) = -1 then 1 else 0) → sv_T X (sv_rm 5 0 0) MX5_pack (sv_Zm X 0 0 (sv_qi (fun a f' => a = sp_wes m - sp_wes (sp_pack m) ∧ sp_chg o f f' ∧ f' (o + 1) = sp_pack m) S r g)) 0 0 11 [some (sv_r o), some (sv_i (sp_wes m)), some (sv_i i), none] [] S (f1) r g := by
    intro k
    induction k with
    | zero =>
      intro i f1 hk h1 hch hm1 hpk
      exact absurd hk (by omega)
    | succ k ih =>
      intro i f1 hk h1 hch hm1 hpk
      obtain ⟨hrp, hout⟩ := sp_pki_rp hw i.toNat (by omega)
      have hwi := hrp.wt hw
      have h580 : (sp_pki m i.toNat) 580 = m 580 := hrp.c
      have hg596 : (sp_pki m i.toNat) 596 = m 596 := hrp.1 596 (by omega) (by omega)
      have hrow : ∀ j, 0 ≤ j → (sp_pki m i.toNat) (29 * i + j) = m (29 * i + j) := fun j a => hout _ (by omega)
      refine sv_fr fun hin1 => ?_
      refine sv_iload_n (i := 2) dX5_pack_11 rfl rfl ?_
      refine sv_aload_n (i := 0) dX5_pack_12 rfl rfl ?_
      refine sv_getR (kz := 0) flX5_7 dX5_pack_13 rfl rfl hsh.lt hsh.k hsh.r1 ?_
      refine sv_sipush dX5_pack_16 (by decide) ?_
      refine sv_iald dX5_pack_19 hsh.l1 hsh.s1 (by omega) ?_
      rw [hm1, h580]
      refine sv_icmp_ge (tgt := 114) dX5_pack_20 (by decide) (by first | omega | exact hin _ _ | decide | (simp [sv_u, sv_row]; omega) | (simp [sv_u, sv_row]; exact hin _ _) | exact hin1 _ _ | (simp [sv_u, sv_row]; exact hin1 _ _)) (by first | omega | exact hin _ _ | decide | (simp [sv_u, sv_row]; omega) | (simp [sv_u, sv_row]; exact hin _ _) | exact hin1 _ _ | (simp [sv_u, sv_row]; exact hin1 _ _)) (fun h_20 => ?_) (fun h_20 => ?_)
      · refine sv_iload_n (i := 1) dX5_pack_114 rfl rfl ?_
        refine sv_aload_n (i := 0) dX5_pack_115 rfl rfl ?_
        refine sv_vp0 (As := []) clX5_176 dX5_pack_116 ⟨_, rfl, rfl⟩ (by decide) rfl (Nat.le_of_ble_eq_true rfl) (by decide) (by decide) hsh.lt hsh.k (c_X5_weights hsh hm1 hwi) ?_
        refine sv_isub dX5_pack_119 ?_
        refine sv_ireturn dX5_pack_120 rfl ?_
        have hie : i = m 580 := by omega
        subst hie
        exact ⟨_, rfl, rfl, rfl, rfl, by rfl, hch, hm1⟩
      · have hi1 : i < m 580 := by omega
        have hnm := hw.num h1.1 hi1
        have hfi := hw.frm h1.1 hi1
        have hsli := hw.slot h1.1 hi1
        refine sv_aload_n (i := 0) dX5_pack_23 rfl rfl ?_
        refine sv_getR (kz := 15) flX5_34 dX5_pack_24 rfl rfl hsh.lt hsh.k hsh.r9 ?_
        refine sv_iload_n (i := 2) dX5_pack_27 rfl rfl ?_
        refine sv_aload_n (i := 0) dX5_pack_28 rfl rfl ?_
        refine sv_aload_n (i := 0) dX5_pack_29 rfl rfl ?_
        refine sv_iload_n (i := 2) dX5_pack_30 rfl rfl ?_
        refine sv_iconst dX5_pack_31 ?_
        refine sv_vp0 (As := [_, _]) clX5_38 dX5_pack_32 ⟨_, rfl, rfl⟩ (by decide) rfl (Nat.le_of_ble_eq_true rfl) (by decide) (by decide) hsh.lt hsh.k (c_X5_of hsh hm1 _ _ (by omega)) ?_
        rw [hrow 0 (by omega), show 29 * i + 0 = 29 * i by omega]
        refine sv_vi0 (As := [_]) clX5_152 dX5_pack_35 ⟨_, rfl, rfl⟩ (by decide) rfl (Nat.le_of_ble_eq_true rfl) (by decide) (by decide) hsh.lt hsh.k (c_X5_reads hsh hm1 hwi _ (by omega)) (fun a f2 hf2 => ?_)
        obtain ⟨ha2, hf2⟩ := hf2
        subst ha2
        refine sv_zast dX5_pack_38 hsh.l9 hsh.s9 (by omega) (sv_b01 _) ?_
        refine sv_aload_n (i := 0) dX5_pack_39 rfl rfl ?_
        refine sv_getR (kz := 15) flX5_34 dX5_pack_40 rfl rfl hsh.lt hsh.k hsh.r9 ?_
        refine sv_iload_n (i := 2) dX5_pack_43 rfl rfl ?_
        refine sv_zald dX5_pack_44 hsh.l9 hsh.s9 (by omega) ?_
        rw [show sv_u f2 (o + 9) i (if sp_R (sp_pki m i.toNat) (m (29 * i)) = -1 then 1 else 0) (o + 9) i = (if sp_R (sp_pki m i.toNat) (m (29 * i)) = -1 then 1 else 0) by simp [sv_u]]
        have hRe : sp_R (sp_pki m i.toNat) (m (29 * i)) = sp_R m (m (29 * i)) := hrp.R hw _
        have hk3 : ∀ t, 0 ≤ t → t < i + 1 → sv_u f2 (o + 9) i (if sp_R (sp_pki m i.toNat) (m (29 * i)) = -1 then 1 else 0) (o + 9) t = if sp_R m (m (29 * t)) = -1 then 1 else 0 := fun t t0 t1 => by
          by_cases e : t = i
          · subst e; simp [sv_u, hRe]
          · simp [sv_u, e]; rw [hf2.k]; exact hpk t t0 (by omega)
        refine sv_bif_eq (tgt := 108) dX5_pack_45 (by decide) (fun h_45 => ?_) (fun h_45 => ?_)
        · refine sv_iinc dX5_pack_108 rfl (by decide) rfl ?_
          refine sv_goto (tgt := 11) dX5_pack_111 (by decide) ?_
          have hs21 := sp_pki_s (m := m) h1.1
          first
            | (have hq3 : sp_sq o f1 (sv_u f2 (o + 9) i (if sp_R (sp_pki m i.toNat) (m (29 * i)) = -1 then 1 else 0)) := hf2.sq.trans ⟨fun x a1 a2 a3 a4 a5 a6 a7 => by rw [sv_u_ne a7], by simp [sv_u], by simp [sv_u]⟩
               have n0 : ∀ x, x ≠ o + 1 → sv_u f2 (o + 9) i (if sp_R (sp_pki m i.toNat) (m (29 * i)) = -1 then 1 else 0) x = sv_u f2 (o + 9) i (if sp_R (sp_pki m i.toNat) (m (29 * i)) = -1 then 1 else 0) x := fun _ _ => rfl
               exact sv_wk (ih (i + 1) _ (by omega) (by omega) ⟨fun x hx => by rw [n0 x (by omega), hq3.1 x (by omega) (by omega) (by omega) (by omega) (by omega) (by omega) (by omega)]; exact hch.1 x hx, by rw [n0 _ (by omega), hq3.t]; exact hch.2.1, by rw [n0 _ (by omega), hq3.2.2]; exact hch.2.2.1, by rw [n0 _ (by omega), hq3.p]; exact hch.2.2.2.1, by rw [n0 _ (by omega), hq3.2.1]; exact hch.2.2.2.2⟩ (by rw [hq3.m, hm1, hs21]; unfold sp_pkf; rw [if_pos (by rw [← hRe]; assumption)]) hk3) (by simp [sv_sub, sv_ent, sv_lng]) rfl)
            | (have n6 : ∀ x, x ≠ o + 1 → f6 x = f5 x := fun x a1 => by rw [hf6, sv_row_ne a1]
               have hq45 := hq4.trans hq5
               exact sv_wk (ih (i + 1) f6 (by omega) (by omega) ⟨fun x hx => by rw [n6 x (by omega), hq45.1 x (by omega) (by omega) (by omega) (by omega) (by omega) (by omega) (by omega)]; exact hch.1 x hx, by rw [n6 _ (by omega), hq45.t]; exact hch.2.1, by rw [n6 _ (by omega), hq45.2.2]; exact hch.2.2.1, by rw [n6 _ (by omega), hq45.p]; exact hch.2.2.2.1, by rw [n6 _ (by omega), hq45.2.1]; exact hch.2.2.2.2⟩ (by
                 rw [hf6, sv_row_eq, hs21, hm5, hrow 1 (by omega)]
                 unfold sp_pkf
                 rw [if_neg (by omega), if_pos (by rw [← hab]; assumption)]
                 exact sp_ww_cg (fun j a1 a2 => by rw [h56]; exact hwv4 j a1 (by rw [hnn]; exact a2))) (fun t t0 t1 => by rw [n6 _ (by omega), h59, hk4]; exact hk3 t t0 t1)) (by simp [sv_sub, sv_ent, sv_lng]) rfl)
            | (have n8 : ∀ x, x ≠ o + 1 → f8 x = f7 x := fun x a1 => by rw [hf8, sv_row_ne a1]
               have hq47 := hq4.trans (hq5.trans hq7)
               exact sv_wk (ih (i + 1) f8 (by omega) (by omega) ⟨fun x hx => by rw [n8 x (by omega), hq47.1 x (by omega) (by omega) (by omega) (by omega) (by omega) (by omega) (by omega)]; exact hch.1 x hx, by rw [n8 _ (by omega), hq47.t]; exact hch.2.1, by rw [n8 _ (by omega), hq47.2.2]; exact hch.2.2.1, by rw [n8 _ (by omega), hq47.p]; exact hch.2.2.2.1, by rw [n8 _ (by omega), hq47.2.1]; exact hch.2.2.2.2⟩ (by
                 rw [hf8, sv_row_eq, hs21, hm7, hrow 1 (by omega)]
                 unfold sp_pkf
                 rw [if_neg (by omega), if_neg (by rw [← hab]; assumption), ← hab]
                 have hww : ∀ j, 0 ≤ j → j < sp_n m i → f7 (o + 6) j = sp_V m (m (29 * i)) j := fun j a1 a2 => by rw [q7]; exact hwv4 j a1 (by rw [hnn]; exact a2)
                 have e1 := sp_wd_cg (m := sp_pki m i.toNat) (s := i) (n := sp_n m i) q6 hww
                 have e2 := sp_dn_congr (n := sp_n m i) q6 hww
                 rw [← e1, ← e2]
                 rfl) (fun t t0 t1 => by
                 rw [n8 _ (by omega), q9]
                 by_cases e : t = i
                 · subst e
                   simp [sv_u, hR6, hRm]
                 · simp [sv_u, e]
                   rw [hf6.k, h59, hk4, hk3 t t0 t1])) (by simp [sv_sub, sv_ent, sv_lng]) rfl)
        · have hRm : sp_R m (m (29 * i)) = -1 := by rw [← hRe]; assumption
          obtain ⟨z1, z2⟩ := hf2.2.2.1 (by assumption)
          rw [hrp.slot, hsli, hrow 1 (by omega)] at z1 z2
          refine sv_aload_n (i := 0) dX5_pack_48 rfl rfl ?_
          refine sv_vv0 (As := []) clX5_149 dX5_pack_49 ⟨_, rfl, rfl⟩ (by decide) rfl (Nat.le_of_ble_eq_true rfl) (by decide) (by decide) hsh.lt hsh.k (c_X5_setsAside hsh) (fun f4 hf4 => ?_)
          have hnn : sp_n (sp_pki m i.toNat) i = 6 + 2 * m (29 * i + 1) := by unfold sp_n; rw [hrow 1 (by omega)]
          have hm4 : f4 (o + 1) = sp_pki m i.toNat := by rw [hf4, sv_row_ne (by omega), sv_u_ne (by omega), hf2.m]; exact hm1
          have hwv4 : ∀ j, 0 ≤ j → j < sp_n (sp_pki m i.toNat) i → f4 (o + 6) j = sp_V m (m (29 * i)) j := fun j a1 a2 => by
            unfold sp_n at a2
            rw [hrow 1 (by omega)] at a2
            rw [hf4, sv_row_eq, if_pos (by omega), sv_u_ne (by omega), z2 j a1 a2]
            exact hrp.V hw hRm j a1 (by rw [hsli]; exact a2)
          have hpk4 : ∀ t, 0 ≤ t → t < i → f4 (o + 9) t = if sp_R (sp_pki m i.toNat) ((sp_pki m i.toNat) (29 * t)) = -1 then 1 else 0 := fun t t0 t1 => by
            rw [hf4, sv_row_ne (by omega), hk3 t t0 (by omega), (hrp.2 t t0 (by omega)).1, hrp.R hw]
          have hq4 : sp_sq o f1 f4 := hf2.sq.trans (by rw [hf4]; exact ⟨fun x a1 a2 a3 a4 a5 a6 a7 => by rw [sv_row_ne a5, sv_u_ne a7], by simp [sv_row, sv_u], by simp [sv_row, sv_u]⟩)
          have hk4 : f4 (o + 9) = sv_u f2 (o + 9) i (if sp_R (sp_pki m i.toNat) (m (29 * i)) = -1 then 1 else 0) (o + 9) := by rw [hf4, sv_row_ne (by omega)]
          refine sv_aload_n (i := 0) dX5_pack_52 rfl rfl ?_
          refine sv_iload_n (i := 2) dX5_pack_53 rfl rfl ?_
          refine sv_vi0 (As := [_]) clX5_179 dX5_pack_54 ⟨_, rfl, rfl⟩ (by decide) rfl (Nat.le_of_ble_eq_true rfl) (by decide) (by decide) hsh.lt hsh.k (c_X5_nearestBase (m := sp_pki m i.toNat) (wv := sp_V m (m (29 * i))) hsh hm4 hwi (by rw [hg596]; exact hl) i (by rw [h580]; omega) hwv4 hpk4) (fun a f5 hf5 => ?_)
          obtain ⟨ha5, hq5, h56, h59⟩ := hf5
          have hm5 : f5 (o + 1) = sp_pki m i.toNat := hq5.m.trans hm4
          have hab : a = sp_pkb m (sp_pki m i.toNat) i := by
            rw [ha5]
            unfold sp_pkb
            have hnn : sp_n (sp_pki m i.toNat) i = sp_n m i := by unfold sp_n; rw [hrow 1 (by omega)]
            rw [hnn]
            refine congrArg Prod.fst (sp_am_congr (n := i) (fun t t0 t1 => ?_) (fun t t0 t1 hp => ?_))
            · obtain ⟨e0, e1, -, -⟩ := hrp.2 t t0 (by omega)
              rw [e0, e1, hrow 1 (by omega), hg596, hrp.R hw]
            · obtain ⟨e0, e1, -, -⟩ := hrp.2 t t0 (by omega)
              obtain ⟨p1, p2, p3⟩ := hp
              rw [e0, hrp.R hw] at p3
              rw [e1, hrow 1 (by omega)] at p1
              have hft := hw.frm t0 (by omega : t < m 580)
              have hslt := hw.slot t0 (by omega : t < m 580)
              show sp_dn (sp_rz (sp_V (sp_pki m i.toNat) ((sp_pki m i.toNat) (29 * t))) ((sp_pki m i.toNat) (29 * t + 1)) ((sp_pki m i.toNat) (29 * i + 1))) _ _ = sp_dn _ _ _
              rw [e0, e1, hrow 1 (by omega)]
              refine sp_dn_congr (n := sp_n m i) (fun j a1 a2 => ?_) (fun _ _ _ => rfl)
              unfold sp_n at a2
              exact sp_rz_congr hft.1 p1 hfi.2 (fun j b1 b2 => hrp.V hw p3 j b1 (by rw [hslt]; exact b2)) j a1 a2
          have hai : a = -1 ∨ (0 ≤ a ∧ a < i) := by
            rw [hab]
            by_cases h : sp_pkb m (sp_pki m i.toNat) i = -1
            · exact Or.inl h
            · have := sp_pkb_spec h1.1 h
              omega
          refine sv_istore_n (i := 3) dX5_pack_57 rfl (by decide) rfl ?_
          refine sv_iload_n (i := 3) dX5_pack_58 rfl rfl ?_
          refine sv_iconst dX5_pack_59 ?_
          refine sv_icmp_ne (tgt := 71) dX5_pack_60 (by decide) (by first | omega | exact hin _ _ | decide | (simp [sv_u, sv_row]; omega) | (simp [sv_u, sv_row]; exact hin _ _) | exact hin1 _ _ | (simp [sv_u, sv_row]; exact hin1 _ _)) (by first | omega | exact hin _ _ | decide | (simp [sv_u, sv_row]; omega) | (simp [sv_u, sv_row]; exact hin _ _) | exact hin1 _ _ | (simp [sv_u, sv_row]; exact hin1 _ _)) (fun h_60 => ?_) (fun h_60 => ?_)
          · obtain ⟨b1, b2, b3, b4, b5⟩ := sp_pkb_spec (m := m) (mi := sp_pki m i.toNat) (s := i) h1.1 (by rw [← hab]; assumption)
            rw [← hab] at b1 b2 b3 b4 b5
            have hnb := hw.num b1 (by omega : a < m 580)
            have hfb := hw.frm b1 (by omega : a < m 580)
            have hslb := hw.slot b1 (by omega : a < m 580)
            obtain ⟨eb0, eb1, -, -⟩ := hrp.2 a b1 (by omega)
            have h290 : (sp_pki m i.toNat) (29 * a + 0) = m (29 * a) := by rw [show 29 * a + 0 = 29 * a by omega]; exact eb0
            refine sv_aload_n (i := 0) dX5_pack_71 rfl rfl ?_
            refine sv_getR (kz := 15) flX5_34 dX5_pack_72 rfl rfl hsh.lt hsh.k hsh.r9 ?_
            refine sv_iload_n (i := 2) dX5_pack_75 rfl rfl ?_
            refine sv_aload_n (i := 0) dX5_pack_76 rfl rfl ?_
            refine sv_aload_n (i := 0) dX5_pack_77 rfl rfl ?_
            refine sv_iload_n (i := 3) dX5_pack_78 rfl rfl ?_
            refine sv_iconst dX5_pack_79 ?_
            refine sv_vp0 (As := [_, _]) clX5_38 dX5_pack_80 ⟨_, rfl, rfl⟩ (by decide) rfl (Nat.le_of_ble_eq_true rfl) (by decide) (by decide) hsh.lt hsh.k (c_X5_of hsh hm5 _ _ (by omega)) ?_
            rw [h290]
            refine sv_vi0 (As := [_]) clX5_152 dX5_pack_83 ⟨_, rfl, rfl⟩ (by decide) rfl (Nat.le_of_ble_eq_true rfl) (by decide) (by decide) hsh.lt hsh.k (c_X5_reads hsh hm5 hwi _ (by omega)) (fun a f6 hf6 => ?_)
            obtain ⟨ha6, hf6⟩ := hf6
            subst ha6
            refine sv_zast dX5_pack_86 hsh.l9 hsh.s9 (by omega) (sv_b01 _) ?_
            have hR6 : sp_R (sp_pki m i.toNat) (m (29 * a)) = -1 := by rw [hrp.R hw]; exact b5
            obtain ⟨y1, y2⟩ := hf6.2.2.1 hR6
            rw [hrp.slot, hslb, eb1] at y1 y2
            have y3 : ∀ j, 0 ≤ j → j < 6 + 2 * m (29 * a + 1) → f6 (o + 3) j = sp_V m (m (29 * a)) j := fun j a1 a2 => by
              rw [y2 j a1 a2]
              exact hrp.V hw b5 j a1 (by rw [hslb]; exact a2)
            have hokb := sp_V_ok' hw b5
            rw [hslb] at hokb
            have hok7 : sp_ok (sv_u f6 (o + 9) i (if sp_R (sp_pki m i.toNat) (m (29 * a)) = -1 then 1 else 0) (o + 3)) (6 + 2 * sv_u f6 (o + 9) i (if sp_R (sp_pki m i.toNat) (m (29 * a)) = -1 then 1 else 0) o 4) := fun j a1 a2 => by
              rw [sv_u_ne (by omega), y1] at a2
              rw [sv_u_ne (by omega), y3 j a1 a2]
              exact hokb j a1 a2
            have hfm7 : 1 ≤ sv_u f6 (o + 9) i (if sp_R (sp_pki m i.toNat) (m (29 * a)) = -1 then 1 else 0) o 4 ∧ sv_u f6 (o + 9) i (if sp_R (sp_pki m i.toNat) (m (29 * a)) = -1 then 1 else 0) o 4 ≤ 3 := by rw [sv_u_ne (by omega), y1]; exact hfb
            refine sv_aload_n (i := 0) dX5_pack_87 rfl rfl ?_
            refine sv_aload_n (i := 0) dX5_pack_88 rfl rfl ?_
            refine sv_iload_n (i := 2) dX5_pack_89 rfl rfl ?_
            refine sv_iconst dX5_pack_90 ?_
            refine sv_vp0 (As := [_, _]) clX5_38 dX5_pack_91 ⟨_, rfl, rfl⟩ (by decide) rfl (Nat.le_of_ble_eq_true rfl) (by decide) (by decide) hsh.lt hsh.k (c_X5_of (m := sp_pki m i.toNat) hsh (by rw [sv_u_ne (by omega)]; exact hf6.m.trans hm5) _ _ (by omega)) ?_
            rw [hrow 1 (by omega)]
            refine sv_vv0 (As := [_]) clX5_70 dX5_pack_94 ⟨_, rfl, rfl⟩ (by decide) rfl (Nat.le_of_ble_eq_true rfl) (by decide) (by decide) hsh.lt hsh.k (c_X5_raisesTo hsh _ (by omega) (by omega) hfm7 (fun _ => hok7)) (fun f7 hf7 => ?_)
            have hm7 : f7 (o + 1) = sp_pki m i.toNat := by rw [hf7, sv_u_ne (by omega), sv_row_ne (by omega), sv_u_ne (by omega), hf6.m]; exact hm5
            have q6 : ∀ j, 0 ≤ j → j < sp_n m i → f7 (o + 3) j = sp_rz (sp_V m (m (29 * a))) (m (29 * a + 1)) (m (29 * i + 1)) j := fun j a1 a2 => by
              unfold sp_n at a2
              have y1' : sv_u f6 (o + 9) i (if sp_R (sp_pki m i.toNat) (m (29 * a)) = -1 then 1 else 0) o 4 = m (29 * a + 1) := by rw [sv_u_ne (by omega)]; exact y1
              rw [hf7, sv_u_ne (by omega), sv_row_eq, y1', sv_u_ne (by omega)]
              exact sp_rz_congr hfb.1 b3 hfi.2 y3 j a1 a2
            have q7 : f7 (o + 6) = f4 (o + 6) := by rw [hf7, sv_u_ne (by omega), sv_row_ne (by omega), sv_u_ne (by omega), hf6.w]; exact h56
            have q9 : f7 (o + 9) = sv_u f6 (o + 9) i (if sp_R (sp_pki m i.toNat) (m (29 * a)) = -1 then 1 else 0) (o + 9) := by rw [hf7, sv_u_ne (by omega), sv_row_ne (by omega)]
            have hq7 : sp_sq o f5 f7 := hf6.sq.trans (by rw [hf7]; exact ⟨fun x a1 a2 a3 a4 a5 a6 a7 => by rw [sv_u_ne a1, sv_row_ne a2, sv_u_ne a7], by simp [sv_u, sv_row], by simp [sv_u, sv_row]⟩)
            refine sv_aload_n (i := 0) dX5_pack_97 rfl rfl ?_
            refine sv_iload_n (i := 2) dX5_pack_98 rfl rfl ?_
            refine sv_aload_n (i := 0) dX5_pack_99 rfl rfl ?_
            refine sv_iload_n (i := 3) dX5_pack_100 rfl rfl ?_
            refine sv_iconst dX5_pack_101 ?_
            refine sv_vp0 (As := [_, _]) clX5_38 dX5_pack_102 ⟨_, rfl, rfl⟩ (by decide) rfl (Nat.le_of_ble_eq_true rfl) (by decide) (by decide) hsh.lt hsh.k (c_X5_of hsh hm7 _ _ (by omega)) ?_
            rw [h290]
            refine sv_vv0 (As := [_, _]) clX5_161 dX5_pack_105 ⟨_, rfl, rfl⟩ (by decide) rfl (Nat.le_of_ble_eq_true rfl) (by decide) (by decide) hsh.lt hsh.k (c_X5_writesDifference hsh _ _ (by omega) (by omega) (by rw [hm7, hrow 1 (by omega)]; exact hfi)) (fun f8 hf8 => ?_)
            refine sv_iinc dX5_pack_108 rfl (by decide) rfl ?_
            refine sv_goto (tgt := 11) dX5_pack_111 (by decide) ?_
            have hs21 := sp_pki_s (m := m) h1.1
            first
              | (have hq3 : sp_sq o f1 (sv_u f2 (o + 9) i (if sp_R (sp_pki m i.toNat) (m (29 * i)) = -1 then 1 else 0)) := hf2.sq.trans ⟨fun x a1 a2 a3 a4 a5 a6 a7 => by rw [sv_u_ne a7], by simp [sv_u], by simp [sv_u]⟩
                 have n0 : ∀ x, x ≠ o + 1 → sv_u f2 (o + 9) i (if sp_R (sp_pki m i.toNat) (m (29 * i)) = -1 then 1 else 0) x = sv_u f2 (o + 9) i (if sp_R (sp_pki m i.toNat) (m (29 * i)) = -1 then 1 else 0) x := fun _ _ => rfl
                 exact sv_wk (ih (i + 1) _ (by omega) (by omega) ⟨fun x hx => by rw [n0 x (by omega), hq3.1 x (by omega) (by omega) (by omega) (by omega) (by omega) (by omega) (by omega)]; exact hch.1 x hx, by rw [n0 _ (by omega), hq3.t]; exact hch.2.1, by rw [n0 _ (by omega), hq3.2.2]; exact hch.2.2.1, by rw [n0 _ (by omega), hq3.p]; exact hch.2.2.2.1, by rw [n0 _ (by omega), hq3.2.1]; exact hch.2.2.2.2⟩ (by rw [hq3.m, hm1, hs21]; unfold sp_pkf; rw [if_pos (by rw [← hRe]; assumption)]) hk3) (by simp [sv_sub, sv_ent, sv_lng]) rfl)
              | (have n6 : ∀ x, x ≠ o + 1 → f6 x = f5 x := fun x a1 => by rw [hf6, sv_row_ne a1]
                 have hq45 := hq4.trans hq5
                 exact sv_wk (ih (i + 1) f6 (by omega) (by omega) ⟨fun x hx => by rw [n6 x (by omega), hq45.1 x (by omega) (by omega) (by omega) (by omega) (by omega) (by omega) (by omega)]; exact hch.1 x hx, by rw [n6 _ (by omega), hq45.t]; exact hch.2.1, by rw [n6 _ (by omega), hq45.2.2]; exact hch.2.2.1, by rw [n6 _ (by omega), hq45.p]; exact hch.2.2.2.1, by rw [n6 _ (by omega), hq45.2.1]; exact hch.2.2.2.2⟩ (by
                   rw [hf6, sv_row_eq, hs21, hm5, hrow 1 (by omega)]
                   unfold sp_pkf
                   rw [if_neg (by omega), if_pos (by rw [← hab]; assumption)]
                   exact sp_ww_cg (fun j a1 a2 => by rw [h56]; exact hwv4 j a1 (by rw [hnn]; exact a2))) (fun t t0 t1 => by rw [n6 _ (by omega), h59, hk4]; exact hk3 t t0 t1)) (by simp [sv_sub, sv_ent, sv_lng]) rfl)
              | (have n8 : ∀ x, x ≠ o + 1 → f8 x = f7 x := fun x a1 => by rw [hf8, sv_row_ne a1]
                 have hq47 := hq4.trans (hq5.trans hq7)
                 exact sv_wk (ih (i + 1) f8 (by omega) (by omega) ⟨fun x hx => by rw [n8 x (by omega), hq47.1 x (by omega) (by omega) (by omega) (by omega) (by omega) (by omega) (by omega)]; exact hch.1 x hx, by rw [n8 _ (by omega), hq47.t]; exact hch.2.1, by rw [n8 _ (by omega), hq47.2.2]; exact hch.2.2.1, by rw [n8 _ (by omega), hq47.p]; exact hch.2.2.2.1, by rw [n8 _ (by omega), hq47.2.1]; exact hch.2.2.2.2⟩ (by
                   rw [hf8, sv_row_eq, hs21, hm7, hrow 1 (by omega)]
                   unfold sp_pkf
                   rw [if_neg (by omega), if_neg (by rw [← hab]; assumption), ← hab]
                   have hww : ∀ j, 0 ≤ j → j < sp_n m i → f7 (o + 6) j = sp_V m (m (29 * i)) j := fun j a1 a2 => by rw [q7]; exact hwv4 j a1 (by rw [hnn]; exact a2)
                   have e1 := sp_wd_cg (m := sp_pki m i.toNat) (s := i) (n := sp_n m i) q6 hww
                   have e2 := sp_dn_congr (n := sp_n m i) q6 hww
                   rw [← e1, ← e2]
                   rfl) (fun t t0 t1 => by
                   rw [n8 _ (by omega), q9]
                   by_cases e : t = i
                   · subst e
                     simp [sv_u, hR6, hRm]
                   · simp [sv_u, e]
                     rw [hf6.k, h59, hk4, hk3 t t0 t1])) (by simp [sv_sub, sv_ent, sv_lng]) rfl)
          · refine sv_aload_n (i := 0) dX5_pack_63 rfl rfl ?_
            refine sv_iload_n (i := 2) dX5_pack_64 rfl rfl ?_
            refine sv_vv0 (As := [_]) clX5_164 dX5_pack_65 ⟨_, rfl, rfl⟩ (by decide) rfl (Nat.le_of_ble_eq_true rfl) (by decide) (by decide) hsh.lt hsh.k (c_X5_writesWhole hsh _ (by omega) (by rw [hm5, hrow 1 (by omega)]; exact hfi)) (fun f6 hf6 => ?_)
            refine sv_goto (tgt := 108) dX5_pack_68 (by decide) ?_
            refine sv_iinc dX5_pack_108 rfl (by decide) rfl ?_
            refine sv_goto (tgt := 11) dX5_pack_111 (by decide) ?_
            have hs21 := sp_pki_s (m := m) h1.1
            first
              | (have hq3 : sp_sq o f1 (sv_u f2 (o + 9) i (if sp_R (sp_pki m i.toNat) (m (29 * i)) = -1 then 1 else 0)) := hf2.sq.trans ⟨fun x a1 a2 a3 a4 a5 a6 a7 => by rw [sv_u_ne a7], by simp [sv_u], by simp [sv_u]⟩
                 have n0 : ∀ x, x ≠ o + 1 → sv_u f2 (o + 9) i (if sp_R (sp_pki m i.toNat) (m (29 * i)) = -1 then 1 else 0) x = sv_u f2 (o + 9) i (if sp_R (sp_pki m i.toNat) (m (29 * i)) = -1 then 1 else 0) x := fun _ _ => rfl
                 exact sv_wk (ih (i + 1) _ (by omega) (by omega) ⟨fun x hx => by rw [n0 x (by omega), hq3.1 x (by omega) (by omega) (by omega) (by omega) (by omega) (by omega) (by omega)]; exact hch.1 x hx, by rw [n0 _ (by omega), hq3.t]; exact hch.2.1, by rw [n0 _ (by omega), hq3.2.2]; exact hch.2.2.1, by rw [n0 _ (by omega), hq3.p]; exact hch.2.2.2.1, by rw [n0 _ (by omega), hq3.2.1]; exact hch.2.2.2.2⟩ (by rw [hq3.m, hm1, hs21]; unfold sp_pkf; rw [if_pos (by rw [← hRe]; assumption)]) hk3) (by simp [sv_sub, sv_ent, sv_lng]) rfl)
              | (have n6 : ∀ x, x ≠ o + 1 → f6 x = f5 x := fun x a1 => by rw [hf6, sv_row_ne a1]
                 have hq45 := hq4.trans hq5
                 exact sv_wk (ih (i + 1) f6 (by omega) (by omega) ⟨fun x hx => by rw [n6 x (by omega), hq45.1 x (by omega) (by omega) (by omega) (by omega) (by omega) (by omega) (by omega)]; exact hch.1 x hx, by rw [n6 _ (by omega), hq45.t]; exact hch.2.1, by rw [n6 _ (by omega), hq45.2.2]; exact hch.2.2.1, by rw [n6 _ (by omega), hq45.p]; exact hch.2.2.2.1, by rw [n6 _ (by omega), hq45.2.1]; exact hch.2.2.2.2⟩ (by
                   rw [hf6, sv_row_eq, hs21, hm5, hrow 1 (by omega)]
                   unfold sp_pkf
                   rw [if_neg (by omega), if_pos (by rw [← hab]; assumption)]
                   exact sp_ww_cg (fun j a1 a2 => by rw [h56]; exact hwv4 j a1 (by rw [hnn]; exact a2))) (fun t t0 t1 => by rw [n6 _ (by omega), h59, hk4]; exact hk3 t t0 t1)) (by simp [sv_sub, sv_ent, sv_lng]) rfl)
              | (have n8 : ∀ x, x ≠ o + 1 → f8 x = f7 x := fun x a1 => by rw [hf8, sv_row_ne a1]
                 have hq47 := hq4.trans (hq5.trans hq7)
                 exact sv_wk (ih (i + 1) f8 (by omega) (by omega) ⟨fun x hx => by rw [n8 x (by omega), hq47.1 x (by omega) (by omega) (by omega) (by omega) (by omega) (by omega) (by omega)]; exact hch.1 x hx, by rw [n8 _ (by omega), hq47.t]; exact hch.2.1, by rw [n8 _ (by omega), hq47.2.2]; exact hch.2.2.1, by rw [n8 _ (by omega), hq47.p]; exact hch.2.2.2.1, by rw [n8 _ (by omega), hq47.2.1]; exact hch.2.2.2.2⟩ (by
                   rw [hf8, sv_row_eq, hs21, hm7, hrow 1 (by omega)]
                   unfold sp_pkf
                   rw [if_neg (by omega), if_neg (by rw [← hab]; assumption), ← hab]
                   have hww : ∀ j, 0 ≤ j → j < sp_n m i → f7 (o + 6) j = sp_V m (m (29 * i)) j := fun j a1 a2 => by rw [q7]; exact hwv4 j a1 (by rw [hnn]; exact a2)
                   have e1 := sp_wd_cg (m := sp_pki m i.toNat) (s := i) (n := sp_n m i) q6 hww
                   have e2 := sp_dn_congr (n := sp_n m i) q6 hww
                   rw [← e1, ← e2]
                   rfl) (fun t t0 t1 => by
                   rw [n8 _ (by omega), q9]
                   by_cases e : t = i
                   · subst e
                     simp [sv_u, hR6, hRm]
                   · simp [sv_u, e]
                     rw [hf6.k, h59, hk4, hk3 t t0 t1])) (by simp [sv_sub, sv_ent, sv_lng]) rfl)
  refine sv_aload_n (i := 0) dX5_pack_0 rfl rfl ?_
  refine sv_vv0 (As := []) clX5_137 dX5_pack_1 ⟨_, rfl, rfl⟩ (by decide) rfl (Nat.le_of_ble_eq_true rfl) (by decide) (by decide) hsh.lt hsh.k (c_X5_keeps hsh hu) (fun f1 hf1 => ?_)
  have k1 : ∀ x, x ≠ o → x ≠ o + 2 → f1 x = f x := fun x a1 a2 => by rw [hf1, sv_u_ne a1, sv_row_ne a2]
  have k2 : ∀ j, j ≠ 2 → f1 o j = f o j := fun j a1 => by rw [hf1]; simp [sv_u, sv_row, a1]
  have k3 : f1 (o + 2) = sp_kpast (f (o + 1)) (f (o + 2)) (f o 2) := by rw [hf1, sv_u_ne (by omega), sv_row_eq]; rfl
  have k4 : f1 o 2 = sp_ku (f o 2) := by rw [hf1]; simp [sv_u]; rfl
  clear hf1
  have hm1 : f1 (o + 1) = m := by rw [k1 (o + 1) (by omega) (by omega)]; exact hm
  refine sv_aload_n (i := 0) dX5_pack_4 rfl rfl ?_
  refine sv_vp0 (As := []) clX5_176 dX5_pack_5 ⟨_, rfl, rfl⟩ (by decide) rfl (Nat.le_of_ble_eq_true rfl) (by decide) (by decide) hsh.lt hsh.k (c_X5_weights hsh hm1 hw) ?_
  refine sv_istore_n (i := 1) dX5_pack_8 rfl (by decide) rfl ?_
  refine sv_iconst dX5_pack_9 ?_
  refine sv_istore_n (i := 2) dX5_pack_10 rfl (by decide) rfl ?_
  exact sv_wk (lp 21 0 f1 (by omega) (by omega) ⟨fun x hx => k1 x (by omega) (by omega), k1 _ (by omega) (by omega), k2 10 (by omega), k3, k4⟩ hm1 (fun t t0 t1 => by omega)) (by simp [sv_sub, sv_ent, sv_lng]) rfl
