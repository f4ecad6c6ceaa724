set_option maxRecDepth 100000 in
set_option maxHeartbeats 4000000 in
theorem c_X5_reads {X : sv_X} {S : sv_S} {f : sv_F} {r : sv_R} {g : sv_G} {o : Nat} {m : Int → Int} (hsh : sv_M5 S r o) (hm : f (o + 1) = m) (hw : sp_wt m) (n : Int) (hn : 0 ≤ n ∧ n ≤ 2147483647) : sv_C X 3 MX5_reads 0 0 [sv_r o, sv_i n] S f r g (sv_qi (fun a f' => a = (if sp_R m n = -1 then 1 else 0) ∧ sp_rq o m n f f') S r g) := by
  refine sv_met (by decide) (by simp [lg_sl, sv_cv, va_rf, Value.category]) ?_
  refine sv_fr fun hin => ?_
  refine sv_aload_n (i := 0) dX5_reads_0 rfl rfl ?_
  refine sv_iload_n (i := 1) dX5_reads_1 rfl rfl ?_
  refine sv_vv0 (As := [_]) clX5_62 dX5_reads_2 ⟨_, rfl, rfl⟩ (by decide) rfl (Nat.le_of_ble_eq_true rfl) (by decide) (by decide) hsh.lt hsh.k (c_X5_climbs hsh hm hw _ hn) (fun f0 hf0 => ?_)
  obtain ⟨L, hL1, hL2, hL3, hL4, hf0⟩ := hf0
  have hcc := hw.c
  have e0 : (∀ x, x ≠ o → x ≠ o + 3 → x ≠ o + 4 → x ≠ o + 5 → f0 x = f x) := fun x h1 h2 h3 h4 => by
    rw [hf0, sv_u_ne h1, sv_row_ne h3]
  have e1 : (∀ j, j ≠ 4 → j ≠ 7 → f0 o j = f o j) := fun j h1 h2 => by
    rw [hf0]
    simp [sv_u, sv_row, h2]
  have e2 : f0 o 7 = L := by
    rw [hf0]
    simp [sv_u]
  have e3 : ∀ j : Nat, j < L → f0 (o + 4) j = sp_ch m n j := fun j hj => by
    rw [hf0]
    simp [sv_u, sv_row]
    omega
  clear hf0
  have lp : ∀ (k : Nat) (x : Int) (f1 : sv_F), x + 1 < (k : Int) → (-1 ≤ x ∧ x < L) → (∀ x, x ≠ o → x ≠ o + 3 → x ≠ o + 4 → x ≠ o + 5 → f1 x = f x) → (∀ j, j ≠ 4 → j ≠ 7 → f1 o j = f o j) → (f1 o 7 = L) → (∀ j : Nat, j < L → f1 (o + 4) j = sp_ch m n j) → (∀ j : Nat, x < (j : Int) → j < L → f1 (o + 5) j = sp_R m (sp_ch m n j)) → (∀ j : Nat, (j : Int) = x + 1 → j < L → sp_R m (sp_ch m n j) = -1 → f1 o 4 = m (29 * sp_slot m (sp_ch m n j) + 1) ∧ ∀ i, 0 ≤ i → i < 6 + 2 * m (29 * sp_slot m (sp_ch m n j) + 1) → f1 (o + 3) i = sp_V m (sp_ch m n j) i) → sv_T X (sv_rm 3 0 0) MX5_reads (sv_Zm X 0 0 (sv_qi (fun a f' => a = (if sp_R m n = -1 then 1 else 0) ∧ sp_rq o m n f f') S r g)) 0 0 12 [some (sv_r o), some (sv_i n), some (sv_i x), none, none] [] S (f1) r g := by
    intro k
    induction k with
    | zero =>
      intro x f1 hk h1 hfr hfo hL7 hch hre hva
      exact absurd hk (by omega)
    | succ k ih =>
      intro x f1 hk h1 hfr hfo hL7 hch hre hva
      refine sv_fr fun hin1 => ?_
      have hm1 : f1 (o + 1) = m := by rw [hfr (o + 1) (by omega) (by omega) (by omega) (by omega)]; exact hm
      have h16 : 0 ≤ x → sv_T X (sv_rm 3 0 0) MX5_reads (sv_Zm X 0 0 (sv_qi (fun a f' => a = (if sp_R m n = -1 then 1 else 0) ∧ sp_rq o m n f f') S r g)) 0 0 16 [some (sv_r o), some (sv_i n), some (sv_i x), none, none] [] S (f1) r g := by
        intro hx0
        obtain ⟨p, rfl⟩ := Int.eq_ofNat_of_zero_le hx0
        have hpL : p < L := by omega
        have hcp := hL3 p hpL
        have hnx : sp_bs m (sp_ch m n p) = sp_ch m n (p + 1) := rfl
        have h170 : ∀ (fx : sv_F) (rv : Int), (∀ x, x ≠ o → x ≠ o + 3 → x ≠ o + 4 → x ≠ o + 5 → fx x = f x) → (∀ j, j ≠ 4 → j ≠ 7 → fx o j = f o j) → fx o 7 = L → (∀ j : Nat, j < L → fx (o + 4) j = sp_ch m n j) → (∀ j : Nat, (p : Int) < (j : Int) → j < L → fx (o + 5) j = sp_R m (sp_ch m n j)) → rv = sp_R m (sp_ch m n p) → (sp_R m (sp_ch m n p) = -1 → fx o 4 = m (29 * sp_slot m (sp_ch m n p) + 1) ∧ ∀ i, 0 ≤ i → i < 6 + 2 * m (29 * sp_slot m (sp_ch m n p) + 1) → fx (o + 3) i = sp_V m (sp_ch m n p) i) → sv_T X (sv_rm 3 0 0) MX5_reads (sv_Zm X 0 0 (sv_qi (fun a f' => a = (if sp_R m n = -1 then 1 else 0) ∧ sp_rq o m n f f') S r g)) 0 0 170 [some (sv_r o), some (sv_i n), some (sv_i (p : Int)), none, none] [] S (sv_u fx (o + 5) p rv) r g := by
          intro fx rv g1 g2 g3 g4 g5 g6 g7
          refine sv_iinc dX5_reads_170 rfl (by decide) rfl ?_
          refine sv_goto (tgt := 12) dX5_reads_173 (by decide) ?_
          refine sv_wk (ih ((p : Int) + -1) (sv_u fx (o + 5) p rv) (by omega) (by omega) (fun x a1 a2 a3 a4 => by rw [sv_u_ne a4]; exact g1 x a1 a2 a3 a4) (fun j a1 a2 => by rw [sv_u_ne (by omega)]; exact g2 j a1 a2) (by rw [sv_u_ne (by omega)]; exact g3) (fun j hj => by rw [sv_u_ne (by omega)]; exact g4 j hj) (fun j a1 a2 => ?_) (fun j a1 a2 a3 => ?_)) (by simp [sv_sub, sv_ent, sv_lng]) rfl
          · by_cases e : j = p
            · subst e
              simp [sv_u, g6]
            · have e5 : ¬ ((j : Int) = (p : Int)) := by omega
              simp only [sv_u, e5, and_false, if_false]
              exact g5 j (by omega) a2
          · have e : j = p := by omega
            subst e
            obtain ⟨z1, z2⟩ := g7 a3
            refine ⟨by rw [sv_u_ne (by omega)]; exact z1, fun i b1 b2 => ?_⟩
            rw [sv_u_ne (by omega)]
            exact z2 i b1 b2
        have hci : sv_in (sp_ch m n p) := by rw [← hch p hpL]; exact hin1 _ _
        have h27 : (sp_slot m (sp_ch m n p)) ≠ -1 → (sp_bs m (sp_ch m n p) ≠ -1 → sp_R m (sp_bs m (sp_ch m n p)) = -1 ∧ f1 o 4 = m (29 * sp_slot m (sp_bs m (sp_ch m n p)) + 1) ∧ ∀ i, 0 ≤ i → i < 6 + 2 * m (29 * sp_slot m (sp_bs m (sp_ch m n p)) + 1) → f1 (o + 3) i = sp_V m (sp_bs m (sp_ch m n p)) i) → sv_T X (sv_rm 3 0 0) MX5_reads (sv_Zm X 0 0 (sv_qi (fun a f' => a = (if sp_R m n = -1 then 1 else 0) ∧ sp_rq o m n f f') S r g)) 0 0 74 [some (sv_r o), some (sv_i n), some (sv_i (p : Int)), some (sv_i (sp_slot m (sp_ch m n p))), none] [] S (f1) r g := by
          intro hsl hbase
          obtain ⟨hs0, hs1, hs2⟩ := sp_slot_in hsl
          have hfs := hw.frm hs0 hs1
          have hcc := hw.c
          have hmm := hw.many hs0 hs1
          have hpn := hw.num hs0 hs1
          have hVok : sp_ok (sp_V m (sp_ch m n p)) (6 + 2 * m (29 * (sp_slot m (sp_ch m n p)) + 1)) := sp_V_ok hw (sp_ch m n p + 1).toNat _ (by omega) hsl (fun hb => (hbase hb).1)
          have hRV : sp_R m (sp_ch m n p) = if sp_sm (sp_V m (sp_ch m n p)) (6 + 2 * m (29 * (sp_slot m (sp_ch m n p)) + 1)).toNat = m (29 * (sp_slot m (sp_ch m n p)) + 2) then -1 else 1 := by
            by_cases hb : sp_bs m (sp_ch m n p) = -1
            · exact (sp_V_whole hw hsl hb).2
            · exact (sp_V_diff hw hsl hb (hbase hb).1).2
          have h146 : ∀ fx : sv_F, fx (o + 1) = m → (∀ x, x ≠ o → x ≠ o + 3 → x ≠ o + 4 → x ≠ o + 5 → fx x = f x) → (∀ j, j ≠ 4 → j ≠ 7 → fx o j = f o j) → fx o 7 = L → fx o 4 = m (29 * (sp_slot m (sp_ch m n p)) + 1) → (∀ j : Nat, j < L → fx (o + 4) j = sp_ch m n j) → (∀ j : Nat, (p : Int) < (j : Int) → j < L → fx (o + 5) j = sp_R m (sp_ch m n j)) → (∀ j, 0 ≤ j → j < (6 + 2 * m (29 * (sp_slot m (sp_ch m n p)) + 1)) → fx (o + 3) j = sp_V m (sp_ch m n p) j) → sv_T X (sv_rm 3 0 0) MX5_reads (sv_Zm X 0 0 (sv_qi (fun a f' => a = (if sp_R m n = -1 then 1 else 0) ∧ sp_rq o m n f f') S r g)) 0 0 146 [some (sv_r o), some (sv_i n), some (sv_i (p : Int)), some (sv_i (sp_slot m (sp_ch m n p))), some (sv_i (m (29 * (sp_slot m (sp_ch m n p)) + 4)))] [] S (fx) r g := by
            intro fx k1 k2 k3 k4 k5 k6 k7 hVx
            refine sv_fr fun hin2 => ?_
            have hokx : sp_ok (fx (o + 3)) (6 + 2 * m (29 * (sp_slot m (sp_ch m n p)) + 1)) := fun j a1 a2 => by rw [hVx j a1 a2]; exact hVok j a1 a2
            have hsum := sp_sm_congr hVx
            refine sv_aload_n (i := 0) dX5_reads_146 rfl rfl ?_
            refine sv_getR (kz := 6) flX5_22 dX5_reads_147 rfl rfl hsh.lt hsh.k hsh.r5 ?_
            refine sv_iload_n (i := 2) dX5_reads_150 rfl rfl ?_
            refine sv_aload_n (i := 0) dX5_reads_151 rfl rfl ?_
            refine sv_vp0 (As := []) clX5_73 dX5_reads_152 ⟨_, rfl, rfl⟩ (by decide) rfl (Nat.le_of_ble_eq_true rfl) (by decide) (by decide) hsh.lt hsh.k (c_X5_sumNow (v := fx (o + 3)) (fm := m (29 * (sp_slot m (sp_ch m n p)) + 1)) hsh rfl k5 hfs hokx) ?_
            refine sv_aload_n (i := 0) dX5_reads_155 rfl rfl ?_
            refine sv_iload_n (i := 3) dX5_reads_156 rfl rfl ?_
            refine sv_iconst dX5_reads_157 ?_
            refine sv_vp0 (As := [_, _]) clX5_38 dX5_reads_158 ⟨_, rfl, rfl⟩ (by decide) rfl (Nat.le_of_ble_eq_true rfl) (by decide) (by decide) hsh.lt hsh.k (c_X5_of (m := m) hsh k1 _ _ (by omega)) ?_
            have hmi : sv_in (m (29 * (sp_slot m (sp_ch m n p)) + 2)) := by rw [← k1]; exact hin2 _ _
            have hsi := sp_sm_in (fx (o + 3)) (6 + 2 * m (29 * (sp_slot m (sp_ch m n p)) + 1)).toNat
            refine sv_icmp_ne (tgt := 168) dX5_reads_161 (by decide) (by omega) hmi (fun h_161 => ?_) (fun h_161 => ?_)
            · refine sv_iconst dX5_reads_168 ?_
              refine sv_iast dX5_reads_169 hsh.l5 hsh.s5 (by omega) (by omega) ?_
              exact sv_wk (h170 fx _ k2 k3 k4 k6 k7 (by rw [hRV, ← hsum]; simp [h_161]) (fun hR => ⟨k5, hVx⟩)) (by simp [sv_sub, sv_ent, sv_lng]) rfl
            · refine sv_iconst dX5_reads_164 ?_
              refine sv_goto (tgt := 169) dX5_reads_165 (by decide) ?_
              refine sv_iast dX5_reads_169 hsh.l5 hsh.s5 (by omega) (by omega) ?_
              exact sv_wk (h170 fx _ k2 k3 k4 k6 k7 (by rw [hRV, ← hsum]; simp [h_161]) (fun hR => ⟨k5, hVx⟩)) (by simp [sv_sub, sv_ent, sv_lng]) rfl
          have hle : ∀ fm : sv_F, fm (o + 1) = m → sv_T X (sv_rm 3 0 0) MX5_reads (sv_Zm X 0 0 (sv_qi (fun a f' => a = (if sp_R m n = -1 then 1 else 0) ∧ sp_rq o m n f f') S r g)) 0 0 146 [some (sv_r o), some (sv_i n), some (sv_i (p : Int)), some (sv_i (sp_slot m (sp_ch m n p))), some (sv_i (m (29 * (sp_slot m (sp_ch m n p)) + 4)))] [] S (sv_row fm (o + 3) (sp_en (fm (o + 3)) (fun i => m (29 * (sp_slot m (sp_ch m n p)) + (5 + i))) (fun i => m (29 * (sp_slot m (sp_ch m n p)) + (17 + i))) (m (29 * (sp_slot m (sp_ch m n p)) + 4)).toNat)) r g → ∀ (kk : Nat) (i : Int), m (29 * (sp_slot m (sp_ch m n p)) + 4) - i < (kk : Int) → (0 ≤ i ∧ i ≤ m (29 * (sp_slot m (sp_ch m n p)) + 4)) → sv_T X (sv_rm 3 0 0) MX5_reads (sv_Zm X 0 0 (sv_qi (fun a f' => a = (if sp_R m n = -1 then 1 else 0) ∧ sp_rq o m n f f') S r g)) 0 0 105 [some (sv_r o), some (sv_i n), some (sv_i (p : Int)), some (sv_i (sp_slot m (sp_ch m n p))), some (sv_i i)] [] S (sv_row fm (o + 3) (sp_en (fm (o + 3)) (fun i => m (29 * (sp_slot m (sp_ch m n p)) + (5 + i))) (fun i => m (29 * (sp_slot m (sp_ch m n p)) + (17 + i))) i.toNat)) r g := by
            intro fm km hfin kk
            induction kk with
            | zero =>
              intro i hk2 h9
              exact absurd hk2 (by omega)
            | succ kk ih2 =>
              intro i hk2 h9
              refine sv_iload dX5_reads_105 rfl ?_
              refine sv_aload_n (i := 0) dX5_reads_107 rfl rfl ?_
              refine sv_iload_n (i := 3) dX5_reads_108 rfl rfl ?_
              refine sv_iconst dX5_reads_109 ?_
              refine sv_vp0 (As := [_, _]) clX5_38 dX5_reads_110 ⟨_, rfl, rfl⟩ (by decide) rfl (Nat.le_of_ble_eq_true rfl) (by decide) (by decide) hsh.lt hsh.k (c_X5_of (m := m) hsh (by rw [sv_row_ne (by omega)]; exact km) _ _ (by omega)) ?_
              have hmm := hw.many hs0 hs1
              refine sv_icmp_ge (tgt := 146) dX5_reads_113 (by decide) (by first | omega | exact hin _ _ | decide | (simp [sv_u, sv_row]; omega) | (simp [sv_u, sv_row]; exact hin _ _) | exact hin1 _ _ | (simp [sv_u, sv_row]; exact hin1 _ _)) (by first | omega | exact hin _ _ | decide | (simp [sv_u, sv_row]; omega) | (simp [sv_u, sv_row]; exact hin _ _) | exact hin1 _ _ | (simp [sv_u, sv_row]; exact hin1 _ _)) (fun h_113 => ?_) (fun h_113 => ?_)
              · have hie : i = m (29 * (sp_slot m (sp_ch m n p)) + 4) := by omega
                subst hie
                exact hfin
              · have hme := hw.ent hs0 hs1 h9.1 h_113
                refine sv_aload_n (i := 0) dX5_reads_116 rfl rfl ?_
                refine sv_getR (kz := 3) flX5_16 dX5_reads_117 rfl rfl hsh.lt hsh.k hsh.r3 ?_
                refine sv_aload_n (i := 0) dX5_reads_120 rfl rfl ?_
                refine sv_iload_n (i := 3) dX5_reads_121 rfl rfl ?_
                refine sv_iconst dX5_reads_122 ?_
                refine sv_iload dX5_reads_123 rfl ?_
                refine sv_iadd dX5_reads_125 ?_
                refine sv_vp0 (As := [_, _]) clX5_38 dX5_reads_126 ⟨_, rfl, rfl⟩ (by decide) rfl (Nat.le_of_ble_eq_true rfl) (by decide) (by decide) hsh.lt hsh.k (c_X5_of (m := m) hsh (by rw [sv_row_ne (by omega)]; exact km) _ _ (by omega)) ?_
                refine sv_aload_n (i := 0) dX5_reads_129 rfl rfl ?_
                refine sv_iload_n (i := 3) dX5_reads_130 rfl rfl ?_
                refine sv_bipush dX5_reads_131 (by decide) ?_
                refine sv_iload dX5_reads_133 rfl ?_
                refine sv_iadd dX5_reads_135 ?_
                refine sv_vp0 (As := [_, _]) clX5_38 dX5_reads_136 ⟨_, rfl, rfl⟩ (by decide) rfl (Nat.le_of_ble_eq_true rfl) (by decide) (by decide) hsh.lt hsh.k (c_X5_of (m := m) hsh (by rw [sv_row_ne (by omega)]; exact km) _ _ (by omega)) ?_
                refine sv_iast dX5_reads_139 hsh.l3 hsh.s3 (by omega) (by omega) ?_
                refine sv_iinc dX5_reads_140 rfl (by decide) rfl ?_
                refine sv_goto (tgt := 105) dX5_reads_143 (by decide) ?_
                refine sv_cast (ih2 (i + 1) (by omega) (by omega)) rfl rfl rfl rfl rfl ?_
                rw [sp_en_s h9.1]
                funext a b
                by_cases e1 : a = o + 3
                · subst e1
                  simp [sv_u, sv_row]
                · simp [sv_u, sv_row, e1]
          have h92 : ∀ fx : sv_F, fx (o + 1) = m → (1 ≤ fx o 4 ∧ fx o 4 ≤ m (29 * (sp_slot m (sp_ch m n p)) + 1)) → (fx o 4 < m (29 * (sp_slot m (sp_ch m n p)) + 1) → sp_ok (fx (o + 3)) (6 + 2 * fx o 4)) → (∀ x, x ≠ o → x ≠ o + 3 → x ≠ o + 4 → x ≠ o + 5 → fx x = f x) → (∀ j, j ≠ 4 → j ≠ 7 → fx o j = f o j) → fx o 7 = L → (∀ j : Nat, j < L → fx (o + 4) j = sp_ch m n j) → (∀ j : Nat, (p : Int) < (j : Int) → j < L → fx (o + 5) j = sp_R m (sp_ch m n j)) → (∀ j, 0 ≤ j → j < (6 + 2 * m (29 * (sp_slot m (sp_ch m n p)) + 1)) → sp_en (sp_rz (fx (o + 3)) (fx o 4) (m (29 * (sp_slot m (sp_ch m n p)) + 1))) (fun i => m (29 * (sp_slot m (sp_ch m n p)) + (5 + i))) (fun i => m (29 * (sp_slot m (sp_ch m n p)) + (17 + i))) (m (29 * (sp_slot m (sp_ch m n p)) + 4)).toNat j = sp_V m (sp_ch m n p) j) → sv_T X (sv_rm 3 0 0) MX5_reads (sv_Zm X 0 0 (sv_qi (fun a f' => a = (if sp_R m n = -1 then 1 else 0) ∧ sp_rq o m n f f') S r g)) 0 0 92 [some (sv_r o), some (sv_i n), some (sv_i (p : Int)), some (sv_i (sp_slot m (sp_ch m n p))), none] [] S (fx) r g := by
            intro fx q1 q2' q3 q4 q5 q6 q7 q8 q9
            have q2 : 1 ≤ fx o 4 ∧ fx o 4 ≤ 3 := by omega
            refine sv_aload_n (i := 0) dX5_reads_92 rfl rfl ?_
            refine sv_aload_n (i := 0) dX5_reads_93 rfl rfl ?_
            refine sv_iload_n (i := 3) dX5_reads_94 rfl rfl ?_
            refine sv_iconst dX5_reads_95 ?_
            refine sv_vp0 (As := [_, _]) clX5_38 dX5_reads_96 ⟨_, rfl, rfl⟩ (by decide) rfl (Nat.le_of_ble_eq_true rfl) (by decide) (by decide) hsh.lt hsh.k (c_X5_of (m := m) hsh q1 _ _ (by omega)) ?_
            refine sv_vv0 (As := [_]) clX5_70 dX5_reads_99 ⟨_, rfl, rfl⟩ (by decide) rfl (Nat.le_of_ble_eq_true rfl) (by decide) (by decide) hsh.lt hsh.k (c_X5_raisesTo hsh _ (by omega) (by omega) q2 q3) (fun f2 hf2 => ?_)
            subst hf2
            refine sv_iconst dX5_reads_102 ?_
            refine sv_istore dX5_reads_103 (by decide) rfl ?_
            refine sv_cast (hle (sv_u (sv_row fx (o + 3) (sp_rz (fx (o + 3)) (fx o 4) (m (29 * (sp_slot m (sp_ch m n p)) + 1)))) o 4 (max (fx o 4) (m (29 * (sp_slot m (sp_ch m n p)) + 1)))) (by rw [sv_u_ne (by omega), sv_row_ne (by omega)]; exact q1) (h146 _ ?_ ?_ ?_ ?_ ?_ ?_ ?_ ?_) 13 0 (by omega) (by omega)) rfl rfl rfl rfl rfl ?_
            · rw [sv_row_ne (by omega), sv_u_ne (by omega), sv_row_ne (by omega)]; exact q1
            · intro x a1 a2 a3 a4
              rw [sv_row_ne a2, sv_u_ne a1, sv_row_ne a2]; exact q4 x a1 a2 a3 a4
            · intro j a1 a2
              simp [sv_row, sv_u, a1]; exact q5 j a1 a2
            · simp [sv_row, sv_u]; exact q6
            · simp [sv_row, sv_u]; omega
            · intro j hj
              simp [sv_row, sv_u]; exact q7 j hj
            · intro j a1 a2
              simp [sv_row, sv_u]; exact q8 j a1 a2
            · intro j a1 a2
              rw [sv_row_eq]
              have e9 : sv_u (sv_row fx (o + 3) (sp_rz (fx (o + 3)) (fx o 4) (m (29 * (sp_slot m (sp_ch m n p)) + 1)))) o 4 (max (fx o 4) (m (29 * (sp_slot m (sp_ch m n p)) + 1))) (o + 3) = sp_rz (fx (o + 3)) (fx o 4) (m (29 * (sp_slot m (sp_ch m n p)) + 1)) := by
                rw [sv_u_ne (by omega), sv_row_eq]
              rw [e9]
              exact q9 j a1 a2
            · exact sv_row_id
          refine sv_aload_n (i := 0) dX5_reads_74 rfl rfl ?_
          refine sv_iload_n (i := 3) dX5_reads_75 rfl rfl ?_
          refine sv_vp0 (As := [_]) clX5_66 dX5_reads_76 ⟨_, rfl, rfl⟩ (by decide) rfl (Nat.le_of_ble_eq_true rfl) (by decide) (by decide) hsh.lt hsh.k (c_X5_isWhole (m := m) hsh hm1 _ (by omega)) ?_
          refine sv_bif_eq (tgt := 92) dX5_reads_79 (by decide) (fun h_79 => ?_) (fun h_79 => ?_)
          · have hbn : sp_bs m (sp_ch m n p) ≠ -1 := by unfold sp_bs; rw [if_neg hsl]; exact h_79
            obtain ⟨z1, z2, z3⟩ := hbase hbn
            have hbsl := sp_R_slot hw (by omega : sp_R m (sp_bs m (sp_ch m n p)) ≠ 0)
            obtain ⟨b0, b1, b2⟩ := sp_slot_in hbsl
            have hbf := hw.frm b0 b1
            have hff := hw.fms hs0 hs1 b0 b1 (by rw [b2]; unfold sp_bs; rw [if_neg hsl])
            have hok := sp_V_ok' hw z1
            refine h92 f1 hm1 (by omega) (fun _ => ?_) hfr hfo hL7 hch hre (fun j a1 a2 => ?_)
            · rw [z2]
              intro j a1 a2
              rw [z3 j a1 a2]
              exact hok j a1 a2
            · rw [(sp_V_diff hw hsl hbn z1).1, z2]
              exact sp_en_congr (sp_rz_congr hbf.1 hff hfs.2 z3) _ j a1 a2
          · refine sv_aload_n (i := 0) dX5_reads_82 rfl rfl ?_
            refine sv_aload_n (i := 0) dX5_reads_83 rfl rfl ?_
            refine sv_iload_n (i := 3) dX5_reads_84 rfl rfl ?_
            refine sv_iconst dX5_reads_85 ?_
            refine sv_vp0 (As := [_, _]) clX5_38 dX5_reads_86 ⟨_, rfl, rfl⟩ (by decide) rfl (Nat.le_of_ble_eq_true rfl) (by decide) (by decide) hsh.lt hsh.k (c_X5_of (m := m) hsh hm1 _ _ (by omega)) ?_
            refine sv_putI (kz := 4) flX5_46 dX5_reads_89 (Or.inl rfl) rfl rfl hsh.lt hsh.k (by first | omega | exact hin _ _ | decide | (simp [sv_u, sv_row]; omega) | (simp [sv_u, sv_row]; exact hin _ _) | exact hin1 _ _ | (simp [sv_u, sv_row]; exact hin1 _ _)) ?_
            refine h92 (sv_u f1 o 4 (m (29 * (sp_slot m (sp_ch m n p)) + 1))) (by rw [sv_u_ne (by omega)]; exact hm1) (by simp [sv_u]; omega) (fun h => by simp [sv_u] at h) (fun x a1 a2 a3 a4 => by rw [sv_u_ne a1]; exact hfr x a1 a2 a3 a4) (fun j a1 a2 => by simp [sv_u, a1]; exact hfo j a1 a2) (by simp [sv_u]; exact hL7) (fun j hj => by rw [sv_u_ne (by omega)]; exact hch j hj) (fun j a1 a2 => by rw [sv_u_ne (by omega)]; exact hre j a1 a2) (fun j a1 a2 => ?_)
            have hbn : sp_bs m (sp_ch m n p) = -1 := by unfold sp_bs; rw [if_neg hsl]; exact h_79
            obtain ⟨w1, w2⟩ := hw.whole hs0 hs1 h_79
            rw [(sp_V_whole hw hsl hbn).1, sp_en_all _ (fun i c1 c2 => w2 i c1 (by omega)) j a1 (by omega), sp_en_all _ (fun i c1 c2 => w2 i c1 (by omega)) j a1 (by omega)]
        refine sv_aload_n (i := 0) dX5_reads_16 rfl rfl ?_
        refine sv_aload_n (i := 0) dX5_reads_17 rfl rfl ?_
        refine sv_getR (kz := 5) flX5_19 dX5_reads_18 rfl rfl hsh.lt hsh.k hsh.r4 ?_
        refine sv_iload_n (i := 2) dX5_reads_21 rfl rfl ?_
        refine sv_iald dX5_reads_22 hsh.l4 hsh.s4 (by omega) ?_
        rw [hch p hpL]
        refine sv_vp0 (As := [_]) clX5_59 dX5_reads_23 ⟨_, rfl, rfl⟩ (by decide) rfl (Nat.le_of_ble_eq_true rfl) (by decide) (by decide) hsh.lt hsh.k (c_X5_slotOf (m := m) hsh hm1 _ hci hw.c) ?_
        refine sv_istore_n (i := 3) dX5_reads_26 rfl (by decide) rfl ?_
        have hst := sp_slot_spec m (sp_ch m n p)
        refine sv_iload_n (i := 3) dX5_reads_27 rfl rfl ?_
        refine sv_iconst dX5_reads_28 ?_
        refine sv_icmp_ne (tgt := 42) dX5_reads_29 (by decide) (by first | omega | exact hin _ _ | decide | (simp [sv_u, sv_row]; omega) | (simp [sv_u, sv_row]; exact hin _ _) | exact hin1 _ _ | (simp [sv_u, sv_row]; exact hin1 _ _)) (by first | omega | exact hin _ _ | decide | (simp [sv_u, sv_row]; omega) | (simp [sv_u, sv_row]; exact hin _ _) | exact hin1 _ _ | (simp [sv_u, sv_row]; exact hin1 _ _)) (fun h_29 => ?_) (fun h_29 => ?_)
        · refine sv_iload_n (i := 2) dX5_reads_42 rfl rfl ?_
          refine sv_aload_n (i := 0) dX5_reads_43 rfl rfl ?_
          refine sv_getI (kz := 7) flX5_56 dX5_reads_44 rfl rfl hsh.lt hsh.k ?_
          refine sv_iconst dX5_reads_47 ?_
          refine sv_isub dX5_reads_48 ?_
          refine sv_icmp_ge (tgt := 74) dX5_reads_49 (by decide) (by first | omega | exact hin _ _ | decide | (simp [sv_u, sv_row]; omega) | (simp [sv_u, sv_row]; exact hin _ _) | exact hin1 _ _ | (simp [sv_u, sv_row]; exact hin1 _ _)) (by first | omega | exact hin _ _ | decide | (simp [sv_u, sv_row]; omega) | (simp [sv_u, sv_row]; exact hin _ _) | exact hin1 _ _ | (simp [sv_u, sv_row]; exact hin1 _ _)) (fun h_49 => ?_) (fun h_49 => ?_)
          · refine sv_wk (h27 (by assumption) (fun hb => ?_)) (by simp [sv_sub, sv_ent, sv_lng]) rfl
            first
              | (exfalso
                 have : p + 1 = L := by omega
                 rw [hnx, this] at hb
                 exact hb hL4)
              | (have hR1 : sp_R m (sp_ch m n (p + 1)) = -1 := by rw [← hr1]; assumption
                 rw [hnx]
                 exact ⟨hR1, hva (p + 1) (by omega) (by omega) hR1⟩)
          · refine sv_aload_n (i := 0) dX5_reads_52 rfl rfl ?_
            refine sv_getR (kz := 6) flX5_22 dX5_reads_53 rfl rfl hsh.lt hsh.k hsh.r5 ?_
            refine sv_iload_n (i := 2) dX5_reads_56 rfl rfl ?_
            refine sv_iconst dX5_reads_57 ?_
            refine sv_iadd dX5_reads_58 ?_
            refine sv_iald dX5_reads_59 hsh.l5 hsh.s5 (by omega) ?_
            refine sv_iconst dX5_reads_60 ?_
            have hr1 : f1 (o + 5) ((p : Int) + 1) = sp_R m (sp_ch m n (p + 1)) := by
              have := hre (p + 1) (by omega) (by omega)
              simpa using this
            refine sv_icmp_eq (tgt := 74) dX5_reads_61 (by decide) (by first | omega | exact hin _ _ | decide | (simp [sv_u, sv_row]; omega) | (simp [sv_u, sv_row]; exact hin _ _) | exact hin1 _ _ | (simp [sv_u, sv_row]; exact hin1 _ _)) (by first | omega | exact hin _ _ | decide | (simp [sv_u, sv_row]; omega) | (simp [sv_u, sv_row]; exact hin _ _) | exact hin1 _ _ | (simp [sv_u, sv_row]; exact hin1 _ _)) (fun h_61 => ?_) (fun h_61 => ?_)
            · refine sv_wk (h27 (by assumption) (fun hb => ?_)) (by simp [sv_sub, sv_ent, sv_lng]) rfl
              first
                | (exfalso
                   have : p + 1 = L := by omega
                   rw [hnx, this] at hb
                   exact hb hL4)
                | (have hR1 : sp_R m (sp_ch m n (p + 1)) = -1 := by rw [← hr1]; assumption
                   rw [hnx]
                   exact ⟨hR1, hva (p + 1) (by omega) (by omega) hR1⟩)
            · refine sv_aload_n (i := 0) dX5_reads_64 rfl rfl ?_
              refine sv_getR (kz := 6) flX5_22 dX5_reads_65 rfl rfl hsh.lt hsh.k hsh.r5 ?_
              refine sv_iload_n (i := 2) dX5_reads_68 rfl rfl ?_
              refine sv_iconst dX5_reads_69 ?_
              refine sv_iast dX5_reads_70 hsh.l5 hsh.s5 (by omega) (by first | omega | exact hin _ _ | decide | (simp [sv_u, sv_row]; omega) | (simp [sv_u, sv_row]; exact hin _ _) | exact hin1 _ _ | (simp [sv_u, sv_row]; exact hin1 _ _)) ?_
              refine sv_goto (tgt := 170) dX5_reads_71 (by decide) ?_
              first
                | exact sv_wk (h170 f1 0 hfr hfo hL7 hch hre (sp_R_lost hw (by assumption)).symm (fun hR => by rw [sp_R_lost hw (by assumption)] at hR; omega)) (by simp [sv_sub, sv_ent, sv_lng]) rfl
                | (have hR1 : sp_R m (sp_bs m (sp_ch m n p)) ≠ -1 := by rw [hnx, ← hr1]; assumption
                   have hbn : sp_bs m (sp_ch m n p) ≠ -1 := by rw [hnx]; exact hL3 (p + 1) (by omega)
                   have hRp := sp_R_bad hw (by assumption) hbn hR1
                   exact sv_wk (h170 f1 2 hfr hfo hL7 hch hre hRp.symm (fun hR => by rw [hRp] at hR; omega)) (by simp [sv_sub, sv_ent, sv_lng]) rfl)
        · refine sv_aload_n (i := 0) dX5_reads_32 rfl rfl ?_
          refine sv_getR (kz := 6) flX5_22 dX5_reads_33 rfl rfl hsh.lt hsh.k hsh.r5 ?_
          refine sv_iload_n (i := 2) dX5_reads_36 rfl rfl ?_
          refine sv_iconst dX5_reads_37 ?_
          refine sv_iast dX5_reads_38 hsh.l5 hsh.s5 (by omega) (by first | omega | exact hin _ _ | decide | (simp [sv_u, sv_row]; omega) | (simp [sv_u, sv_row]; exact hin _ _) | exact hin1 _ _ | (simp [sv_u, sv_row]; exact hin1 _ _)) ?_
          refine sv_goto (tgt := 170) dX5_reads_39 (by decide) ?_
          first
            | exact sv_wk (h170 f1 0 hfr hfo hL7 hch hre (sp_R_lost hw (by assumption)).symm (fun hR => by rw [sp_R_lost hw (by assumption)] at hR; omega)) (by simp [sv_sub, sv_ent, sv_lng]) rfl
            | (have hR1 : sp_R m (sp_bs m (sp_ch m n p)) ≠ -1 := by rw [hnx, ← hr1]; assumption
               have hbn : sp_bs m (sp_ch m n p) ≠ -1 := by rw [hnx]; exact hL3 (p + 1) (by omega)
               have hRp := sp_R_bad hw (by assumption) hbn hR1
               exact sv_wk (h170 f1 2 hfr hfo hL7 hch hre hRp.symm (fun hR => by rw [hRp] at hR; omega)) (by simp [sv_sub, sv_ent, sv_lng]) rfl)
      refine sv_iload_n (i := 2) dX5_reads_12 rfl rfl ?_
      refine sv_if_lt (tgt := 176) dX5_reads_13 (by decide) (by first | omega | exact hin _ _ | decide | (simp [sv_u, sv_row]; omega) | (simp [sv_u, sv_row]; exact hin _ _) | exact hin1 _ _ | (simp [sv_u, sv_row]; exact hin1 _ _)) (fun h_13 => ?_) (fun h_13 => ?_)
      · refine sv_aload_n (i := 0) dX5_reads_176 rfl rfl ?_
        refine sv_getR (kz := 6) flX5_22 dX5_reads_177 rfl rfl hsh.lt hsh.k hsh.r5 ?_
        refine sv_iconst dX5_reads_180 ?_
        refine sv_iald dX5_reads_181 hsh.l5 hsh.s5 (by omega) ?_
        refine sv_iconst dX5_reads_182 ?_
        refine sv_icmp_ne (tgt := 190) dX5_reads_183 (by decide) (by first | omega | exact hin _ _ | decide | (simp [sv_u, sv_row]; omega) | (simp [sv_u, sv_row]; exact hin _ _) | exact hin1 _ _ | (simp [sv_u, sv_row]; exact hin1 _ _)) (by first | omega | exact hin _ _ | decide | (simp [sv_u, sv_row]; omega) | (simp [sv_u, sv_row]; exact hin _ _) | exact hin1 _ _ | (simp [sv_u, sv_row]; exact hin1 _ _)) (fun h_183 => ?_) (fun h_183 => ?_)
        · refine sv_iconst dX5_reads_190 ?_
          refine sv_zreturn dX5_reads_191 rfl (by first | exact sv_b01 _ | decide) ?_
          have hR0 := hre 0 (by omega) (by omega)
          have hc0 : sp_ch m n 0 = n := rfl
          rw [hc0] at hR0
          have hR0' : f1 (o + 5) 0 = sp_R m n := hR0
          refine ⟨_, rfl, rfl, rfl, rfl, by rw [← hR0']; simp [h_183], hfr, hfo, fun hR => ?_, L, hL1, hL2, hL3, hL4, hL7, fun k hk => ⟨hch k hk, hre k (by omega) hk⟩⟩
          have := hva 0 (by omega) (by omega)
          rw [hc0] at this
          exact this hR
        · refine sv_iconst dX5_reads_186 ?_
          refine sv_goto (tgt := 191) dX5_reads_187 (by decide) ?_
          refine sv_zreturn dX5_reads_191 rfl (by first | exact sv_b01 _ | decide) ?_
          have hR0 := hre 0 (by omega) (by omega)
          have hc0 : sp_ch m n 0 = n := rfl
          rw [hc0] at hR0
          have hR0' : f1 (o + 5) 0 = sp_R m n := hR0
          refine ⟨_, rfl, rfl, rfl, rfl, by rw [← hR0']; simp [h_183], hfr, hfo, fun hR => ?_, L, hL1, hL2, hL3, hL4, hL7, fun k hk => ⟨hch k hk, hre k (by omega) hk⟩⟩
          have := hva 0 (by omega) (by omega)
          rw [hc0] at this
          exact this hR
      · exact h16 h_13
  refine sv_aload_n (i := 0) dX5_reads_5 rfl rfl ?_
  refine sv_getI (kz := 7) flX5_56 dX5_reads_6 rfl rfl hsh.lt hsh.k ?_
  refine sv_iconst dX5_reads_9 ?_
  refine sv_isub dX5_reads_10 ?_
  refine sv_istore_n (i := 2) dX5_reads_11 rfl (by decide) rfl ?_
  rw [e2]
  refine sv_wk (lp 30 ((L : Int) - 1) f0 (by omega) (by omega) e0 e1 e2 e3 (fun j a1 a2 => by omega) (fun j a1 a2 => by omega)) (by simp [sv_sub, sv_ent, sv_lng]) rfl

