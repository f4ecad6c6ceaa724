section SPECRS
def sp_rs (o : Nat) (f : sv_F) (w : Int → Int) (q φ c : Int) : sv_F := sv_u (sp_rc o f w q φ) o 14 c
variable {o : Nat} {f : sv_F} {w w' : Int → Int} {q q' φ φ' c c' : Int}
theorem sp_rs_ne {x : Nat} (h : x ≠ o) (h8 : x ≠ o + 8) : sp_rs o f w q φ c x = f x := by unfold sp_rs; rw [sv_u_ne h, sp_rc_ne h h8]
theorem sp_rs_8 : sp_rs o f w q φ c (o + 8) = w := by unfold sp_rs; rw [sv_u_ne (by omega), sp_rc_8]
theorem sp_rs_11 : sp_rs o f w q φ c o 11 = q := by
  have : sp_rs o f w q φ c o 11 = sp_rc o f w q φ o 11 := by unfold sp_rs; simp [sv_u]
  rw [this, sp_rc_11]
theorem sp_rs_12 : sp_rs o f w q φ c o 12 = φ := by
  have : sp_rs o f w q φ c o 12 = sp_rc o f w q φ o 12 := by unfold sp_rs; simp [sv_u]
  rw [this, sp_rc_12]
theorem sp_rs_14 : sp_rs o f w q φ c o 14 = c := by unfold sp_rs; simp [sv_u]
theorem sp_rs_o {j : Int} (h : j ≠ 11) (h2 : j ≠ 12) (h3 : j ≠ 14) : sp_rs o f w q φ c o j = f o j := by
  have : sp_rs o f w q φ c o j = sp_rc o f w q φ o j := by unfold sp_rs; simp [sv_u, h3]
  rw [this, sp_rc_o h h2]
theorem sp_rs_rs : sv_u (sp_rc o (sp_rs o f w q φ c) w' q' φ') o 14 c' = sp_rs o f w' q' φ' c' := by
  unfold sp_rs sp_rc; funext x y; simp [sv_u, sv_row]; grind
theorem sp_rs_u11 {a : Int} : sv_u (sp_rs o f w q φ c) o 11 a = sp_rs o f w a φ c := by
  unfold sp_rs sp_rc; funext x y; simp [sv_u, sv_row]; grind
theorem sp_rs_0 : sv_u (sv_u (sv_u f o 11 q) o 12 φ) o 14 c = sp_rs o f (f (o + 8)) q φ c := by
  unfold sp_rs sp_rc; funext x y; simp [sv_u, sv_row]; grind
theorem sp_rs_sq : sp_sq o f (sp_rs o f w q φ c) := ⟨fun x a1 _ _ _ _ a6 _ => sp_rs_ne a1 a6, sp_rs_o (by omega) (by omega) (by omega), sp_rs_o (by omega) (by omega) (by omega)⟩
end SPECRS
set_option maxRecDepth 100000 in
set_option maxHeartbeats 4000000 in
theorem c_X5_readsScript {X : sv_X} {S : sv_S} {f : sv_F} {r : sv_R} {g : sv_G} {o : Nat} (hsh : sv_M5 S r o) (h10 : 0 ≤ f o 10 ∧ f o 10 ≤ 80) (hm2 : 1 ≤ f (o + 1) 582 ∧ f (o + 1) 582 ≤ 3) : sv_C X 5 MX5_readsScript 0 0 [sv_r o] S f r g (sv_qv (fun f' => (∃ (w : Int → Int) (q φ c1 : Int) (c : Nat), f' = sp_rs o f w q φ c1 ∧ sp_sc (f (o + 7)) (f o 10) (6 + 2 * f (o + 1) 582 - 1) c φ ∧ (φ = -1 → c1 = c ∧ ∀ i : Nat, i < c → w (4 * (i : Int)) = sp_cw (f (o + 7)) (f o 10) (sp_ps (f (o + 7)) (f o 10) i) ∧ w (4 * (i : Int) + 1) = sp_ca (f (o + 7)) (f o 10) (sp_ps (f (o + 7)) (f o 10) i) ∧ w (4 * (i : Int) + 2) = sp_cb (f (o + 7)) (f o 10) (sp_ps (f (o + 7)) (f o 10) i) ∧ w (4 * (i : Int) + 3) = sp_cc (f (o + 7)) (f o 10) (sp_ps (f (o + 7)) (f o 10) i)))) S r g) := by
  refine sv_met (by decide) (by simp [lg_sl, sv_cv, va_rf, Value.category]) ?_
  refine sv_fr fun hin => ?_
  have fe : ∀ (w : Int → Int) (q φ c1 : Int) (c : Nat), φ ≠ -1 → (∀ i, i < c → sp_ps (f (o + 7)) (f o 10) i < f o 10 ∧ sp_cf (f (o + 7)) (f o 10) (6 + 2 * f (o + 1) 582 - 1) (sp_ps (f (o + 7)) (f o 10) i) = -1) → sp_ps (f (o + 7)) (f o 10) c < f o 10 → sp_cf (f (o + 7)) (f o 10) (6 + 2 * f (o + 1) 582 - 1) (sp_ps (f (o + 7)) (f o 10) c) = φ → sv_T X (sv_rm 5 0 0) MX5_readsScript (sv_Zm X 0 0 (sv_qv (fun f' => (∃ (w : Int → Int) (q φ c1 : Int) (c : Nat), f' = sp_rs o f w q φ c1 ∧ sp_sc (f (o + 7)) (f o 10) (6 + 2 * f (o + 1) 582 - 1) c φ ∧ (φ = -1 → c1 = c ∧ ∀ i : Nat, i < c → w (4 * (i : Int)) = sp_cw (f (o + 7)) (f o 10) (sp_ps (f (o + 7)) (f o 10) i) ∧ w (4 * (i : Int) + 1) = sp_ca (f (o + 7)) (f o 10) (sp_ps (f (o + 7)) (f o 10) i) ∧ w (4 * (i : Int) + 2) = sp_cb (f (o + 7)) (f o 10) (sp_ps (f (o + 7)) (f o 10) i) ∧ w (4 * (i : Int) + 3) = sp_cc (f (o + 7)) (f o 10) (sp_ps (f (o + 7)) (f o 10) i)))) S r g)) 0 0 19 [some (sv_r o)] [] S ((sp_rs o f w q φ c1)) r g := by
    intro w q φ c1 c hφ h1 h2 h3
    refine sv_fr fun hin1 => ?_
    have e7 : (sp_rs o f w q φ c1) (o + 7) = f (o + 7) := sp_rs_ne (by omega) (by omega)
    have e1 : (sp_rs o f w q φ c1) (o + 1) = f (o + 1) := sp_rs_ne (by omega) (by omega)
    have e10 : (sp_rs o f w q φ c1) o 10 = f o 10 := sp_rs_o (by omega) (by omega) (by omega)
    have e11 : (sp_rs o f w q φ c1) o 11 = q := sp_rs_11
    have e12 : (sp_rs o f w q φ c1) o 12 = φ := sp_rs_12
    have e14 : (sp_rs o f w q φ c1) o 14 = c1 := sp_rs_14
    have hqr : sv_in q := e11 ▸ hin1 o 11
    have hφr : sv_in φ := e12 ▸ hin1 o 12
    refine sv_aload_n (i := 0) dX5_readsScript_19 rfl rfl ?_
    refine sv_getI (kz := 11) flX5_88 dX5_readsScript_20 rfl rfl hsh.lt hsh.k ?_
    rw [e11]
    refine sv_aload_n (i := 0) dX5_readsScript_23 rfl rfl ?_
    refine sv_getI (kz := 10) flX5_85 dX5_readsScript_24 rfl rfl hsh.lt hsh.k ?_
    rw [e10]
    refine sv_icmp_ge (tgt := 45) dX5_readsScript_27 (by decide) hqr (by first | omega | exact hin _ _ | decide | (simp [sv_u, sv_row]; omega) | (simp [sv_u, sv_row]; exact hin _ _) | exact hin1 _ _ | (simp [sv_u, sv_row]; exact hin1 _ _)) (fun h_27 => ?_) (fun h_27 => ?_)
    · refine sv_return dX5_readsScript_45 rfl ?_
      exact ⟨rfl, rfl, rfl, rfl, w, q, φ, c1, c, rfl, ⟨h1, Or.inr ⟨hφ, h2, h3⟩⟩, fun e => absurd e hφ⟩
    · refine sv_aload_n (i := 0) dX5_readsScript_30 rfl rfl ?_
      refine sv_getI (kz := 12) flX5_94 dX5_readsScript_31 rfl rfl hsh.lt hsh.k ?_
      rw [e12]
      refine sv_iconst dX5_readsScript_34 ?_
      refine sv_icmp_ne (tgt := 45) dX5_readsScript_35 (by decide) hφr (by first | omega | exact hin _ _ | decide | (simp [sv_u, sv_row]; omega) | (simp [sv_u, sv_row]; exact hin _ _) | exact hin1 _ _ | (simp [sv_u, sv_row]; exact hin1 _ _)) (fun h_35 => ?_) (fun h_35 => ?_)
      · refine sv_return dX5_readsScript_45 rfl ?_
        exact ⟨rfl, rfl, rfl, rfl, w, q, φ, c1, c, rfl, ⟨h1, Or.inr ⟨hφ, h2, h3⟩⟩, fun e => absurd e hφ⟩
      · exact absurd (by omega) hφ
  have lp : ∀ (k : Nat) (w : Int → Int) (c : Nat), f o 10 - (sp_ps (f (o + 7)) (f o 10) c) < (k : Int) → (∀ i, i < c → sp_ps (f (o + 7)) (f o 10) i < f o 10 ∧ sp_cf (f (o + 7)) (f o 10) (6 + 2 * f (o + 1) 582 - 1) (sp_ps (f (o + 7)) (f o 10) i) = -1) → (∀ i : Nat, i < c → w (4 * (i : Int)) = sp_cw (f (o + 7)) (f o 10) (sp_ps (f (o + 7)) (f o 10) i) ∧ w (4 * (i : Int) + 1) = sp_ca (f (o + 7)) (f o 10) (sp_ps (f (o + 7)) (f o 10) i) ∧ w (4 * (i : Int) + 2) = sp_cb (f (o + 7)) (f o 10) (sp_ps (f (o + 7)) (f o 10) i) ∧ w (4 * (i : Int) + 3) = sp_cc (f (o + 7)) (f o 10) (sp_ps (f (o + 7)) (f o 10) i)) → sv_T X (sv_rm 5 0 0) MX5_readsScript (sv_Zm X 0 0 (sv_qv (fun f' => (∃ (w : Int → Int) (q φ c1 : Int) (c : Nat), f' = sp_rs o f w q φ c1 ∧ sp_sc (f (o + 7)) (f o 10) (6 + 2 * f (o + 1) 582 - 1) c φ ∧ (φ = -1 → c1 = c ∧ ∀ i : Nat, i < c → w (4 * (i : Int)) = sp_cw (f (o + 7)) (f o 10) (sp_ps (f (o + 7)) (f o 10) i) ∧ w (4 * (i : Int) + 1) = sp_ca (f (o + 7)) (f o 10) (sp_ps (f (o + 7)) (f o 10) i) ∧ w (4 * (i : Int) + 2) = sp_cb (f (o + 7)) (f o 10) (sp_ps (f (o + 7)) (f o 10) i) ∧ w (4 * (i : Int) + 3) = sp_cc (f (o + 7)) (f o 10) (sp_ps (f (o + 7)) (f o 10) i)))) S r g)) 0 0 19 [some (sv_r o)] [] S ((sp_rs o f w (sp_ps (f (o + 7)) (f o 10) c) (-1) c)) r g := by
    intro k
    induction k with
    | zero =>
      intro w c hk h1 h2
      exact absurd hk (by have := sp_ps_bd h10.1 h1; omega)
    | succ k ih =>
      intro w c hk h1 h2
      refine sv_fr fun hin1 => ?_
      have hpb := sp_ps_bd h10.1 h1
      have e7 : (sp_rs o f w (sp_ps (f (o + 7)) (f o 10) c) (-1) (c : Int)) (o + 7) = f (o + 7) := sp_rs_ne (by omega) (by omega)
      have e1 : (sp_rs o f w (sp_ps (f (o + 7)) (f o 10) c) (-1) (c : Int)) (o + 1) = f (o + 1) := sp_rs_ne (by omega) (by omega)
      have e10 : (sp_rs o f w (sp_ps (f (o + 7)) (f o 10) c) (-1) (c : Int)) o 10 = f o 10 := sp_rs_o (by omega) (by omega) (by omega)
      have e11 : (sp_rs o f w (sp_ps (f (o + 7)) (f o 10) c) (-1) (c : Int)) o 11 = (sp_ps (f (o + 7)) (f o 10) c) := sp_rs_11
      have e12 : (sp_rs o f w (sp_ps (f (o + 7)) (f o 10) c) (-1) (c : Int)) o 12 = (-1) := sp_rs_12
      have e14 : (sp_rs o f w (sp_ps (f (o + 7)) (f o 10) c) (-1) (c : Int)) o 14 = (c : Int) := sp_rs_14
      refine sv_aload_n (i := 0) dX5_readsScript_19 rfl rfl ?_
      refine sv_getI (kz := 11) flX5_88 dX5_readsScript_20 rfl rfl hsh.lt hsh.k ?_
      rw [e11]
      refine sv_aload_n (i := 0) dX5_readsScript_23 rfl rfl ?_
      refine sv_getI (kz := 10) flX5_85 dX5_readsScript_24 rfl rfl hsh.lt hsh.k ?_
      rw [e10]
      refine sv_icmp_ge (tgt := 45) dX5_readsScript_27 (by decide) (by first | omega | exact hin _ _ | decide | (simp [sv_u, sv_row]; omega) | (simp [sv_u, sv_row]; exact hin _ _) | exact hin1 _ _ | (simp [sv_u, sv_row]; exact hin1 _ _)) (by first | omega | exact hin _ _ | decide | (simp [sv_u, sv_row]; omega) | (simp [sv_u, sv_row]; exact hin _ _) | exact hin1 _ _ | (simp [sv_u, sv_row]; exact hin1 _ _)) (fun h_27 => ?_) (fun h_27 => ?_)
      · refine sv_return dX5_readsScript_45 rfl ?_
        exact ⟨rfl, rfl, rfl, rfl, w, (sp_ps (f (o + 7)) (f o 10) c), -1, c, c, rfl, ⟨h1, Or.inl ⟨rfl, by omega⟩⟩, fun e => ⟨rfl, h2⟩⟩
      · refine sv_aload_n (i := 0) dX5_readsScript_30 rfl rfl ?_
        refine sv_getI (kz := 12) flX5_94 dX5_readsScript_31 rfl rfl hsh.lt hsh.k ?_
        rw [e12]
        refine sv_iconst dX5_readsScript_34 ?_
        refine sv_icmp_ne (tgt := 45) dX5_readsScript_35 (by decide) (by first | omega | exact hin _ _ | decide | (simp [sv_u, sv_row]; omega) | (simp [sv_u, sv_row]; exact hin _ _) | exact hin1 _ _ | (simp [sv_u, sv_row]; exact hin1 _ _)) (by first | omega | exact hin _ _ | decide | (simp [sv_u, sv_row]; omega) | (simp [sv_u, sv_row]; exact hin _ _) | exact hin1 _ _ | (simp [sv_u, sv_row]; exact hin1 _ _)) (fun h_35 => ?_) (fun h_35 => ?_)
        · refine sv_return dX5_readsScript_45 rfl ?_
          exact ⟨rfl, rfl, rfl, rfl, w, (sp_ps (f (o + 7)) (f o 10) c), -1, c, c, rfl, ⟨h1, Or.inl ⟨rfl, by omega⟩⟩, fun e => ⟨rfl, h2⟩⟩
        · refine sv_aload_n (i := 0) dX5_readsScript_38 rfl rfl ?_
          refine sv_vv0 (As := []) clX5_127 dX5_readsScript_39 ⟨_, rfl, rfl⟩ (by decide) rfl (Nat.le_of_ble_eq_true rfl) (by decide) (by decide) hsh.lt hsh.k (c_X5_readsCommand (f := sp_rs o f w (sp_ps (f (o + 7)) (f o 10) c) (-1) c) hsh (by rw [e10, e11]; omega) (by rw [e10]; omega) e12 (by rw [e14]; omega) (by rw [e1]; exact hm2)) (fun f2 hf2 => ?_)
          simp only [e7, e10, e11, e14, e1, sp_rs_rs, sp_rs_8] at hf2
          obtain ⟨w2, q2, φ2, c2, hf2, q21, q22, p1, p2⟩ := hf2
          subst hf2
          refine sv_goto (tgt := 19) dX5_readsScript_42 (by decide) ?_
          by_cases e : φ2 = -1
          · obtain ⟨y1, y2, y3, y4, y5, y6, y7⟩ := p2 e
            have hcf : sp_cf (f (o + 7)) (f o 10) (6 + 2 * f (o + 1) 582 - 1) (sp_ps (f (o + 7)) (f o 10) c) = -1 := by rw [← p1]; exact e
            have hn := sp_cn_bd (by omega) (by omega) hcf
            subst e
            have h1n : ∀ i, i < c + 1 → sp_ps (f (o + 7)) (f o 10) i < f o 10 ∧ sp_cf (f (o + 7)) (f o 10) (6 + 2 * f (o + 1) 582 - 1) (sp_ps (f (o + 7)) (f o 10) i) = -1 := fun i hi => by
              by_cases ei : i = c
              · subst ei; exact ⟨by omega, hcf⟩
              · exact h1 i (by omega)
            have h2n : ∀ i : Nat, i < c + 1 → w2 (4 * (i : Int)) = sp_cw (f (o + 7)) (f o 10) (sp_ps (f (o + 7)) (f o 10) i) ∧ w2 (4 * (i : Int) + 1) = sp_ca (f (o + 7)) (f o 10) (sp_ps (f (o + 7)) (f o 10) i) ∧ w2 (4 * (i : Int) + 2) = sp_cb (f (o + 7)) (f o 10) (sp_ps (f (o + 7)) (f o 10) i) ∧ w2 (4 * (i : Int) + 3) = sp_cc (f (o + 7)) (f o 10) (sp_ps (f (o + 7)) (f o 10) i) := fun i hi => by
              by_cases ei : i = c
              · subst ei; exact ⟨y4, y5, y6, y7⟩
              · rw [y3 _ (by omega), y3 _ (by omega), y3 _ (by omega), y3 _ (by omega)]; exact h2 i (by omega)
            refine sv_cast (ih w2 (c + 1) (by show _ - sp_cn (f (o + 7)) (f o 10) (sp_ps (f (o + 7)) (f o 10) c) < _; omega) h1n h2n) rfl rfl rfl rfl rfl ?_
            rw [y1, y2]; rfl
          · exact fe w2 q2 φ2 c2 c e h1 (by omega) p1.symm
  refine sv_aload_n (i := 0) dX5_readsScript_0 rfl rfl ?_
  refine sv_iconst dX5_readsScript_1 ?_
  refine sv_putI (kz := 11) flX5_88 dX5_readsScript_2 (Or.inl rfl) rfl rfl hsh.lt hsh.k (by first | omega | exact hin _ _ | decide | (simp [sv_u, sv_row]; omega) | (simp [sv_u, sv_row]; exact hin _ _) | exact hin1 _ _ | (simp [sv_u, sv_row]; exact hin1 _ _)) ?_
  refine sv_aload_n (i := 0) dX5_readsScript_5 rfl rfl ?_
  refine sv_iconst dX5_readsScript_6 ?_
  refine sv_putI (kz := 12) flX5_94 dX5_readsScript_7 (Or.inl rfl) rfl rfl hsh.lt hsh.k (by first | omega | exact hin _ _ | decide | (simp [sv_u, sv_row]; omega) | (simp [sv_u, sv_row]; exact hin _ _) | exact hin1 _ _ | (simp [sv_u, sv_row]; exact hin1 _ _)) ?_
  refine sv_aload_n (i := 0) dX5_readsScript_10 rfl rfl ?_
  refine sv_iconst dX5_readsScript_11 ?_
  refine sv_putI (kz := 14) flX5_121 dX5_readsScript_12 (Or.inl rfl) rfl rfl hsh.lt hsh.k (by first | omega | exact hin _ _ | decide | (simp [sv_u, sv_row]; omega) | (simp [sv_u, sv_row]; exact hin _ _) | exact hin1 _ _ | (simp [sv_u, sv_row]; exact hin1 _ _)) ?_
  rw [sp_rs_0]
  refine sv_aload_n (i := 0) dX5_readsScript_15 rfl rfl ?_
  refine sv_vv0 (As := []) clX5_104 dX5_readsScript_16 ⟨_, rfl, rfl⟩ (by decide) rfl (Nat.le_of_ble_eq_true rfl) (by decide) (by decide) hsh.lt hsh.k (c_X5_skips (f := sp_rs o f (f (o + 8)) 0 (-1) 0) hsh (by rw [sp_rs_11, sp_rs_o (by omega) (by omega) (by omega)]; omega) (by rw [sp_rs_o (by omega) (by omega) (by omega)]; omega)) (fun f2 hf2 => ?_)
  rw [sp_rs_11, sp_rs_o (by omega) (by omega) (by omega), sp_rs_ne (by omega) (by omega), sp_rs_u11] at hf2
  subst hf2
  exact lp (f o 10 + 1).toNat (f (o + 8)) 0 (by have := sp_sk_bd (t := f (o + 7)) h10.1; show _ - sp_sk (f (o + 7)) (f o 10) 0 < _; omega) (fun i hi => by omega) (fun i hi => by omega)
set_option maxRecDepth 100000 in
set_option maxHeartbeats 4000000 in
theorem c_X5_turns {X : sv_X} {S : sv_S} {f : sv_F} {r : sv_R} {g : sv_G} {o : Nat} {m : Int → Int} (hsh : sv_M5 S r o) (hm : f (o + 1) = m) (a b : Int) (ha : 0 ≤ a ∧ a ≤ b ∧ b ≤ 11) : sv_C X 0 MX5_turns 0 0 [sv_r o, sv_i a, sv_i b] S f r g (sv_qv (fun f' => f' = sv_row f (o + 1) (fun j => if j = 583 + a then m (583 + b) else if 583 + a < j ∧ j ≤ 583 + b then m (j - 1) else m j)) S r g) := by
  refine sv_met (by decide) (by simp [lg_sl, sv_cv, va_rf, Value.category]) ?_
  refine sv_fr fun hin => ?_
  have lp : ∀ (k : Nat) (i : Int), i - a < (k : Int) → (a ≤ i ∧ i ≤ b) → sv_T X (sv_rm 0 0 0) MX5_turns (sv_Zm X 0 0 (sv_qv (fun f' => f' = sv_row f (o + 1) (fun j => if j = 583 + a then m (583 + b) else if 583 + a < j ∧ j ≤ 583 + b then m (j - 1) else m j)) S r g)) 0 0 14 [some (sv_r o), some (sv_i a), some (sv_i b), some (sv_i (m (583 + b))), some (sv_i i)] [] S ((sv_row f (o + 1) (fun j => if 583 + i < j ∧ j ≤ 583 + b then m (j - 1) else m j))) r g := by
    intro k
    induction k with
    | zero =>
      intro i hk h1
      exact absurd hk (by omega)
    | succ k ih =>
      intro i hk h1
      refine sv_iload dX5_turns_14 rfl ?_
      refine sv_iload_n (i := 1) dX5_turns_16 rfl rfl ?_
      refine sv_icmp_le (tgt := 50) dX5_turns_17 (by decide) (by first | omega | exact hin _ _ | decide | (simp [sv_u, sv_row]; omega) | (simp [sv_u, sv_row]; exact hin _ _) | exact hin1 _ _ | (simp [sv_u, sv_row]; exact hin1 _ _)) (by first | omega | exact hin _ _ | decide | (simp [sv_u, sv_row]; omega) | (simp [sv_u, sv_row]; exact hin _ _) | exact hin1 _ _ | (simp [sv_u, sv_row]; exact hin1 _ _)) (fun h_17 => ?_) (fun h_17 => ?_)
      · refine sv_aload_n (i := 0) dX5_turns_50 rfl rfl ?_
        refine sv_getR (kz := 0) flX5_7 dX5_turns_51 rfl rfl hsh.lt hsh.k hsh.r1 ?_
        refine sv_sipush dX5_turns_54 (by decide) ?_
        refine sv_iload_n (i := 1) dX5_turns_57 rfl rfl ?_
        refine sv_iadd dX5_turns_58 ?_
        refine sv_iload_n (i := 3) dX5_turns_59 rfl rfl ?_
        refine sv_iast dX5_turns_60 hsh.l1 hsh.s1 (by omega) (hm ▸ hin _ _) ?_
        refine sv_return dX5_turns_61 rfl ?_
        refine ⟨rfl, rfl, rfl, rfl, ?_⟩
        rw [sv_u_row, sv_row_row, sv_row_eq]
        funext x y
        simp only [sv_row, sp_up]
        grind
      · refine sv_aload_n (i := 0) dX5_turns_20 rfl rfl ?_
        refine sv_getR (kz := 0) flX5_7 dX5_turns_21 rfl rfl hsh.lt hsh.k hsh.r1 ?_
        refine sv_sipush dX5_turns_24 (by decide) ?_
        refine sv_iload dX5_turns_27 rfl ?_
        refine sv_iadd dX5_turns_29 ?_
        refine sv_aload_n (i := 0) dX5_turns_30 rfl rfl ?_
        refine sv_getR (kz := 0) flX5_7 dX5_turns_31 rfl rfl hsh.lt hsh.k hsh.r1 ?_
        refine sv_sipush dX5_turns_34 (by decide) ?_
        refine sv_iload dX5_turns_37 rfl ?_
        refine sv_iadd dX5_turns_39 ?_
        refine sv_iconst dX5_turns_40 ?_
        refine sv_isub dX5_turns_41 ?_
        refine sv_iald dX5_turns_42 hsh.l1 hsh.s1 (by omega) ?_
        rw [sv_row_eq, if_neg (by omega)]
        refine sv_iast dX5_turns_43 hsh.l1 hsh.s1 (by omega) (hm ▸ hin _ _) ?_
        refine sv_iinc dX5_turns_44 rfl (by decide) rfl ?_
        refine sv_goto (tgt := 14) dX5_turns_47 (by decide) ?_
        refine sv_wk (ih (i - 1) (by omega) (by omega)) (by simp [sv_sub, sv_ent, sv_lng]; try omega) ?_
        rw [sv_u_row, sv_row_row, sv_row_eq]
        funext x y
        simp only [sv_row, sp_up]
        grind
  refine sv_aload_n (i := 0) dX5_turns_0 rfl rfl ?_
  refine sv_getR (kz := 0) flX5_7 dX5_turns_1 rfl rfl hsh.lt hsh.k hsh.r1 ?_
  refine sv_sipush dX5_turns_4 (by decide) ?_
  refine sv_iload_n (i := 2) dX5_turns_7 rfl rfl ?_
  refine sv_iadd dX5_turns_8 ?_
  refine sv_iald dX5_turns_9 hsh.l1 hsh.s1 (by omega) ?_
  rw [hm]
  refine sv_istore_n (i := 3) dX5_turns_10 rfl (by decide) rfl ?_
  refine sv_iload_n (i := 2) dX5_turns_11 rfl rfl ?_
  refine sv_istore dX5_turns_12 (by decide) rfl ?_
  refine sv_cast (lp (b - a + 1).toNat b (by omega) (by omega)) rfl rfl rfl rfl rfl ?_
  funext x y
  simp only [sv_row]
  subst hm
  grind
set_option maxRecDepth 100000 in
set_option maxHeartbeats 4000000 in
theorem c_X5_does {X : sv_X} {S : sv_S} {f : sv_F} {r : sv_R} {g : sv_G} {o : Nat} {m : Int → Int} (hsh : sv_M5 S r o) (hm : f (o + 1) = m) (kc hi : Int) (hkc : 0 ≤ kc ∧ kc ≤ 76) (hh : hi ≤ 11) (hc : sp_cok hi (f (o + 8) kc) (f (o + 8) (kc + 1)) (f (o + 8) (kc + 2)) (f (o + 8) (kc + 3))) (hv : ∀ j, 0 ≤ j → j ≤ hi → 0 ≤ m (583 + j) ∧ m (583 + j) ≤ 99) : sv_C X 1 MX5_does 0 0 [sv_r o, sv_i kc] S f r g (sv_qv (fun f' => f' = sv_row f (o + 1) (sp_ex (f (o + 8) kc) (f (o + 8) (kc + 1)) (f (o + 8) (kc + 2)) (f (o + 8) (kc + 3)) m)) S r g) := by
  refine sv_met (by decide) (by simp [lg_sl, sv_cv, va_rf, Value.category]) ?_
  refine sv_fr fun hin => ?_
  obtain ⟨c1, c2, c3, c4, c5, c6, c7⟩ := hc
  have hva := hv _ c2.1 c2.2
  have g0 : f (o + 8) kc = 0 → sv_T X (sv_rm 1 0 0) MX5_does (sv_Zm X 0 0 (sv_qv (fun f' => f' = sv_row f (o + 1) (sp_ex (f (o + 8) kc) (f (o + 8) (kc + 1)) (f (o + 8) (kc + 2)) (f (o + 8) (kc + 3)) m)) S r g)) 0 0 56 [some (sv_r o), some (sv_i kc), some (sv_i (f (o + 8) (kc + 1))), some (sv_i (f (o + 8) (kc + 2))), none] [] S (f) r g := by
    intro e
    have hb := c3 e
    refine sv_aload_n (i := 0) dX5_does_56 rfl rfl ?_
    refine sv_getR (kz := 0) flX5_7 dX5_does_57 rfl rfl hsh.lt hsh.k hsh.r1 ?_
    refine sv_sipush dX5_does_60 (by decide) ?_
    refine sv_iload_n (i := 2) dX5_does_63 rfl rfl ?_
    refine sv_iadd dX5_does_64 ?_
    refine sv_iload_n (i := 3) dX5_does_65 rfl rfl ?_
    refine sv_iast dX5_does_66 hsh.l1 hsh.s1 (by omega) (by first | omega | exact hin _ _ | decide | (simp [sv_u, sv_row]; omega) | (simp [sv_u, sv_row]; exact hin _ _) | exact hin1 _ _ | (simp [sv_u, sv_row]; exact hin1 _ _)) ?_
    refine sv_goto (tgt := 210) dX5_does_67 (by decide) ?_
    refine sv_return dX5_does_210 rfl ?_
    refine ⟨rfl, rfl, rfl, rfl, ?_⟩
    rw [sv_u_row, hm]
    refine congrArg _ ?_
    unfold sp_ex
    rw [if_pos e]
  have g1 : f (o + 8) kc = 1 → sv_T X (sv_rm 1 0 0) MX5_does (sv_Zm X 0 0 (sv_qv (fun f' => f' = sv_row f (o + 1) (sp_ex (f (o + 8) kc) (f (o + 8) (kc + 1)) (f (o + 8) (kc + 2)) (f (o + 8) (kc + 3)) m)) S r g)) 0 0 70 [some (sv_r o), some (sv_i kc), some (sv_i (f (o + 8) (kc + 1))), some (sv_i (f (o + 8) (kc + 2))), none] [] S (f) r g := by
    intro e
    have hb := c4 e
    refine sv_aload_n (i := 0) dX5_does_70 rfl rfl ?_
    refine sv_getR (kz := 0) flX5_7 dX5_does_71 rfl rfl hsh.lt hsh.k hsh.r1 ?_
    refine sv_sipush dX5_does_74 (by decide) ?_
    refine sv_iload_n (i := 2) dX5_does_77 rfl rfl ?_
    refine sv_iadd dX5_does_78 ?_
    refine sv_iald dX5_does_79 hsh.l1 hsh.s1 (by omega) ?_
    rw [hm]
    refine sv_iload_n (i := 3) dX5_does_80 rfl rfl ?_
    refine sv_iadd dX5_does_81 ?_
    refine sv_istore dX5_does_82 (by decide) rfl ?_
    refine sv_aload_n (i := 0) dX5_does_84 rfl rfl ?_
    refine sv_getR (kz := 0) flX5_7 dX5_does_85 rfl rfl hsh.lt hsh.k hsh.r1 ?_
    refine sv_sipush dX5_does_88 (by decide) ?_
    refine sv_iload_n (i := 2) dX5_does_91 rfl rfl ?_
    refine sv_iadd dX5_does_92 ?_
    refine sv_iload dX5_does_93 rfl ?_
    refine sv_if_ge (tgt := 102) dX5_does_95 (by decide) (by first | omega | exact hin _ _ | decide | (simp [sv_u, sv_row]; omega) | (simp [sv_u, sv_row]; exact hin _ _) | exact hin1 _ _ | (simp [sv_u, sv_row]; exact hin1 _ _)) (fun h_95 => ?_) (fun h_95 => ?_)
    · refine sv_iload dX5_does_102 rfl ?_
      refine sv_bipush dX5_does_104 (by decide) ?_
      refine sv_icmp_le (tgt := 114) dX5_does_106 (by decide) (by first | omega | exact hin _ _ | decide | (simp [sv_u, sv_row]; omega) | (simp [sv_u, sv_row]; exact hin _ _) | exact hin1 _ _ | (simp [sv_u, sv_row]; exact hin1 _ _)) (by first | omega | exact hin _ _ | decide | (simp [sv_u, sv_row]; omega) | (simp [sv_u, sv_row]; exact hin _ _) | exact hin1 _ _ | (simp [sv_u, sv_row]; exact hin1 _ _)) (fun h_106 => ?_) (fun h_106 => ?_)
      · refine sv_iload dX5_does_114 rfl ?_
        refine sv_iast dX5_does_116 hsh.l1 hsh.s1 (by omega) (by first | omega | exact hin _ _ | decide | (simp [sv_u, sv_row]; omega) | (simp [sv_u, sv_row]; exact hin _ _) | exact hin1 _ _ | (simp [sv_u, sv_row]; exact hin1 _ _)) ?_
        refine sv_goto (tgt := 210) dX5_does_117 (by decide) ?_
        refine sv_return dX5_does_210 rfl ?_
        refine ⟨rfl, rfl, rfl, rfl, ?_⟩
        rw [sv_u_row, hm]
        refine congrArg _ ?_
        unfold sp_ex
        rw [if_neg (by omega), if_pos e]
        first
        | rw [if_pos (by omega)]
        | rw [if_neg (by omega), if_pos (by omega)]
        | rw [if_neg (by omega), if_neg (by omega)]
      · refine sv_bipush dX5_does_109 (by decide) ?_
        refine sv_goto (tgt := 116) dX5_does_111 (by decide) ?_
        refine sv_iast dX5_does_116 hsh.l1 hsh.s1 (by omega) (by first | omega | exact hin _ _ | decide | (simp [sv_u, sv_row]; omega) | (simp [sv_u, sv_row]; exact hin _ _) | exact hin1 _ _ | (simp [sv_u, sv_row]; exact hin1 _ _)) ?_
        refine sv_goto (tgt := 210) dX5_does_117 (by decide) ?_
        refine sv_return dX5_does_210 rfl ?_
        refine ⟨rfl, rfl, rfl, rfl, ?_⟩
        rw [sv_u_row, hm]
        refine congrArg _ ?_
        unfold sp_ex
        rw [if_neg (by omega), if_pos e]
        first
        | rw [if_pos (by omega)]
        | rw [if_neg (by omega), if_pos (by omega)]
        | rw [if_neg (by omega), if_neg (by omega)]
    · refine sv_iconst dX5_does_98 ?_
      refine sv_goto (tgt := 116) dX5_does_99 (by decide) ?_
      refine sv_iast dX5_does_116 hsh.l1 hsh.s1 (by omega) (by first | omega | exact hin _ _ | decide | (simp [sv_u, sv_row]; omega) | (simp [sv_u, sv_row]; exact hin _ _) | exact hin1 _ _ | (simp [sv_u, sv_row]; exact hin1 _ _)) ?_
      refine sv_goto (tgt := 210) dX5_does_117 (by decide) ?_
      refine sv_return dX5_does_210 rfl ?_
      refine ⟨rfl, rfl, rfl, rfl, ?_⟩
      rw [sv_u_row, hm]
      refine congrArg _ ?_
      unfold sp_ex
      rw [if_neg (by omega), if_pos e]
      first
      | rw [if_pos (by omega)]
      | rw [if_neg (by omega), if_pos (by omega)]
      | rw [if_neg (by omega), if_neg (by omega)]
  have g2 : f (o + 8) kc = 2 → sv_T X (sv_rm 1 0 0) MX5_does (sv_Zm X 0 0 (sv_qv (fun f' => f' = sv_row f (o + 1) (sp_ex (f (o + 8) kc) (f (o + 8) (kc + 1)) (f (o + 8) (kc + 2)) (f (o + 8) (kc + 3)) m)) S r g)) 0 0 120 [some (sv_r o), some (sv_i kc), some (sv_i (f (o + 8) (kc + 1))), some (sv_i (f (o + 8) (kc + 2))), none] [] S (f) r g := by
    intro e
    have hb := c5 e
    have hvb := hv _ hb.1 hb.2
    refine sv_aload_n (i := 0) dX5_does_120 rfl rfl ?_
    refine sv_getR (kz := 0) flX5_7 dX5_does_121 rfl rfl hsh.lt hsh.k hsh.r1 ?_
    refine sv_sipush dX5_does_124 (by decide) ?_
    refine sv_iload_n (i := 2) dX5_does_127 rfl rfl ?_
    refine sv_iadd dX5_does_128 ?_
    refine sv_iald dX5_does_129 hsh.l1 hsh.s1 (by omega) ?_
    rw [hm]
    refine sv_istore dX5_does_130 (by decide) rfl ?_
    refine sv_aload_n (i := 0) dX5_does_132 rfl rfl ?_
    refine sv_getR (kz := 0) flX5_7 dX5_does_133 rfl rfl hsh.lt hsh.k hsh.r1 ?_
    refine sv_sipush dX5_does_136 (by decide) ?_
    refine sv_iload_n (i := 2) dX5_does_139 rfl rfl ?_
    refine sv_iadd dX5_does_140 ?_
    refine sv_aload_n (i := 0) dX5_does_141 rfl rfl ?_
    refine sv_getR (kz := 0) flX5_7 dX5_does_142 rfl rfl hsh.lt hsh.k hsh.r1 ?_
    refine sv_sipush dX5_does_145 (by decide) ?_
    refine sv_iload_n (i := 3) dX5_does_148 rfl rfl ?_
    refine sv_iadd dX5_does_149 ?_
    refine sv_iald dX5_does_150 hsh.l1 hsh.s1 (by omega) ?_
    rw [hm]
    refine sv_iast dX5_does_151 hsh.l1 hsh.s1 (by omega) (by omega) ?_
    refine sv_aload_n (i := 0) dX5_does_152 rfl rfl ?_
    refine sv_getR (kz := 0) flX5_7 dX5_does_153 rfl rfl hsh.lt hsh.k hsh.r1 ?_
    refine sv_sipush dX5_does_156 (by decide) ?_
    refine sv_iload_n (i := 3) dX5_does_159 rfl rfl ?_
    refine sv_iadd dX5_does_160 ?_
    refine sv_iload dX5_does_161 rfl ?_
    refine sv_iast dX5_does_163 hsh.l1 hsh.s1 (by omega) (by omega) ?_
    refine sv_goto (tgt := 210) dX5_does_164 (by decide) ?_
    refine sv_return dX5_does_210 rfl ?_
    refine ⟨rfl, rfl, rfl, rfl, ?_⟩
    rw [sv_u_row, sv_u_row, sv_row_row, sv_row_eq, hm]
    refine congrArg _ ?_
    unfold sp_ex
    rw [if_neg (by omega), if_neg (by omega), if_pos e]
  have g3 : f (o + 8) kc = 3 → sv_T X (sv_rm 1 0 0) MX5_does (sv_Zm X 0 0 (sv_qv (fun f' => f' = sv_row f (o + 1) (sp_ex (f (o + 8) kc) (f (o + 8) (kc + 1)) (f (o + 8) (kc + 2)) (f (o + 8) (kc + 3)) m)) S r g)) 0 0 167 [some (sv_r o), some (sv_i kc), some (sv_i (f (o + 8) (kc + 1))), some (sv_i (f (o + 8) (kc + 2))), none] [] S (f) r g := by
    intro e
    have hb := c6 (by omega)
    have lp : ∀ (k : Nat) (i : Int), f (o + 8) (kc + 2) + 1 - i < (k : Int) → (f (o + 8) (kc + 1) ≤ i ∧ i ≤ f (o + 8) (kc + 2) + 1) → sv_T X (sv_rm 1 0 0) MX5_does (sv_Zm X 0 0 (sv_qv (fun f' => f' = sv_row f (o + 1) (sp_ex (f (o + 8) kc) (f (o + 8) (kc + 1)) (f (o + 8) (kc + 2)) (f (o + 8) (kc + 3)) m)) S r g)) 0 0 170 [some (sv_r o), some (sv_i kc), some (sv_i (f (o + 8) (kc + 1))), some (sv_i (f (o + 8) (kc + 2))), some (sv_i i)] [] S ((sv_row f (o + 1) (fun j => if 583 + f (o + 8) (kc + 1) ≤ j ∧ j < 583 + i then f (o + 8) (kc + 3) else m j))) r g := by
      intro k
      induction k with
      | zero =>
        intro i hk h1
        exact absurd hk (by omega)
      | succ k ih =>
        intro i hk h1
        refine sv_iload dX5_does_170 rfl ?_
        refine sv_iload_n (i := 3) dX5_does_172 rfl rfl ?_
        refine sv_icmp_gt (tgt := 201) dX5_does_173 (by decide) (by first | omega | exact hin _ _ | decide | (simp [sv_u, sv_row]; omega) | (simp [sv_u, sv_row]; exact hin _ _) | exact hin1 _ _ | (simp [sv_u, sv_row]; exact hin1 _ _)) (by first | omega | exact hin _ _ | decide | (simp [sv_u, sv_row]; omega) | (simp [sv_u, sv_row]; exact hin _ _) | exact hin1 _ _ | (simp [sv_u, sv_row]; exact hin1 _ _)) (fun h_173 => ?_) (fun h_173 => ?_)
        · refine sv_goto (tgt := 210) dX5_does_201 (by decide) ?_
          refine sv_return dX5_does_210 rfl ?_
          refine ⟨rfl, rfl, rfl, rfl, ?_⟩
          refine congrArg _ ?_
          unfold sp_ex
          rw [if_neg (by omega), if_neg (by omega), if_neg (by omega), if_pos e]
          funext j
          grind
        · refine sv_aload_n (i := 0) dX5_does_176 rfl rfl ?_
          refine sv_getR (kz := 0) flX5_7 dX5_does_177 rfl rfl hsh.lt hsh.k hsh.r1 ?_
          refine sv_sipush dX5_does_180 (by decide) ?_
          refine sv_iload dX5_does_183 rfl ?_
          refine sv_iadd dX5_does_185 ?_
          refine sv_aload_n (i := 0) dX5_does_186 rfl rfl ?_
          refine sv_getR (kz := 13) flX5_31 dX5_does_187 rfl rfl hsh.lt hsh.k hsh.r8 ?_
          refine sv_iload_n (i := 1) dX5_does_190 rfl rfl ?_
          refine sv_iconst dX5_does_191 ?_
          refine sv_iadd dX5_does_192 ?_
          refine sv_iald dX5_does_193 hsh.l8 hsh.s8 (by omega) ?_
          rw [sv_row_ne (by omega)]
          refine sv_iast dX5_does_194 hsh.l1 hsh.s1 (by omega) (by omega) ?_
          refine sv_iinc dX5_does_195 rfl (by decide) rfl ?_
          refine sv_goto (tgt := 170) dX5_does_198 (by decide) ?_
          refine sv_wk (ih (i + 1) (by omega) (by omega)) (by simp [sv_sub, sv_ent, sv_lng]) ?_
          rw [sv_u_row, sv_row_row, sv_row_eq]
          funext x y
          simp only [sv_row, sp_up]
          grind
    refine sv_iload_n (i := 2) dX5_does_167 rfl rfl ?_
    refine sv_istore dX5_does_168 (by decide) rfl ?_
    refine sv_cast (lp (f (o + 8) (kc + 2) + 1 - f (o + 8) (kc + 1) + 1).toNat _ (by omega) (by omega)) rfl rfl rfl rfl rfl ?_
    funext x y
    simp only [sv_row]
    subst hm
    grind
  have g4 : f (o + 8) kc = 4 → sv_T X (sv_rm 1 0 0) MX5_does (sv_Zm X 0 0 (sv_qv (fun f' => f' = sv_row f (o + 1) (sp_ex (f (o + 8) kc) (f (o + 8) (kc + 1)) (f (o + 8) (kc + 2)) (f (o + 8) (kc + 3)) m)) S r g)) 0 0 204 [some (sv_r o), some (sv_i kc), some (sv_i (f (o + 8) (kc + 1))), some (sv_i (f (o + 8) (kc + 2))), none] [] S (f) r g := by
    intro e
    have hb := c6 (by omega)
    refine sv_aload_n (i := 0) dX5_does_204 rfl rfl ?_
    refine sv_iload_n (i := 2) dX5_does_205 rfl rfl ?_
    refine sv_iload_n (i := 3) dX5_does_206 rfl rfl ?_
    refine sv_vv0 (As := [_, _]) clX5_130 dX5_does_207 ⟨_, rfl, rfl⟩ (by decide) rfl (Nat.le_of_ble_eq_true rfl) (by decide) (by decide) hsh.lt hsh.k (c_X5_turns hsh hm _ _ (by omega)) (fun f2 hf2 => ?_)
    refine sv_return dX5_does_210 rfl ?_
    refine ⟨rfl, rfl, rfl, rfl, ?_⟩
    rw [hf2]
    refine congrArg _ ?_
    unfold sp_ex
    rw [if_neg (by omega), if_neg (by omega), if_neg (by omega), if_neg (by omega)]
  refine sv_aload_n (i := 0) dX5_does_0 rfl rfl ?_
  refine sv_getR (kz := 13) flX5_31 dX5_does_1 rfl rfl hsh.lt hsh.k hsh.r8 ?_
  refine sv_iload_n (i := 1) dX5_does_4 rfl rfl ?_
  refine sv_iconst dX5_does_5 ?_
  refine sv_iadd dX5_does_6 ?_
  refine sv_iald dX5_does_7 hsh.l8 hsh.s8 (by omega) ?_
  refine sv_istore_n (i := 2) dX5_does_8 rfl (by decide) rfl ?_
  refine sv_aload_n (i := 0) dX5_does_9 rfl rfl ?_
  refine sv_getR (kz := 13) flX5_31 dX5_does_10 rfl rfl hsh.lt hsh.k hsh.r8 ?_
  refine sv_iload_n (i := 1) dX5_does_13 rfl rfl ?_
  refine sv_iconst dX5_does_14 ?_
  refine sv_iadd dX5_does_15 ?_
  refine sv_iald dX5_does_16 hsh.l8 hsh.s8 (by omega) ?_
  refine sv_istore_n (i := 3) dX5_does_17 rfl (by decide) rfl ?_
  refine sv_aload_n (i := 0) dX5_does_18 rfl rfl ?_
  refine sv_getR (kz := 13) flX5_31 dX5_does_19 rfl rfl hsh.lt hsh.k hsh.r8 ?_
  refine sv_iload_n (i := 1) dX5_does_22 rfl rfl ?_
  refine sv_iald dX5_does_23 hsh.l8 hsh.s8 (by omega) ?_
  by_cases e0 : f (o + 8) kc = 0
  · exact sv_tsw (off := 32) (tgt := 56) dX5_does_24 (by omega) (by omega) (by omega) (by rw [e0]; rfl) (by decide) (g0 e0)
  by_cases e1 : f (o + 8) kc = 1
  · exact sv_tsw (off := 46) (tgt := 70) dX5_does_24 (by omega) (by omega) (by omega) (by rw [e1]; rfl) (by decide) (g1 e1)
  by_cases e2 : f (o + 8) kc = 2
  · exact sv_tsw (off := 96) (tgt := 120) dX5_does_24 (by omega) (by omega) (by omega) (by rw [e2]; rfl) (by decide) (g2 e2)
  by_cases e3 : f (o + 8) kc = 3
  · exact sv_tsw (off := 143) (tgt := 167) dX5_does_24 (by omega) (by omega) (by omega) (by rw [e3]; rfl) (by decide) (g3 e3)
  have e4 : f (o + 8) kc = 4 := by omega
  exact sv_tswd (tgt := 204) dX5_does_24 (by omega) (Or.inr (by omega)) (by decide) (g4 e4)
