section LWREAD
variable {q m : Int → Int} {k : Int}
theorem lw_kept (hq : lw_q q m) (h0 : 0 ≤ k) (h1 : k < m 580) {w : Int} (hw : 0 ≤ w ∧ w ≤ 7) : (if k < 0 ∨ ¬ (0 ≤ w ∧ w ≤ 7) then -2 else if sp_slot m k = -1 then -1 else sp_part m (sp_slot m k) w) = sp_part m k w := by
  rw [hq.slot h0 h1, if_neg (by omega), if_neg (by omega)]
theorem lw_rd0 (hq : lw_q q m) (hw : sp_wt m) (h0 : 0 ≤ k) (h1 : k < m 580) {i : Int} (hi : 0 ≤ i) : sp_rdv m k 0 i = if sp_R m k ≠ -1 then -3 else if i < 6 + 2 * m (29 * k + 1) then sp_V m k i else -1 := by
  have hf := hw.frm h0 h1
  unfold sp_rdv
  rw [hq.slot h0 h1, if_neg (by omega), show max (m (29 * k + 1)) 0 = m (29 * k + 1) by omega, sp_rz_self (by omega)]
theorem lw_rd3 (hq : lw_q q m) (hw : sp_wt m) (h0 : 0 ≤ k) (h1 : k < m 580) {i : Int} (hi : 0 ≤ i ∧ i < 12) : sp_rdv m k 3 i = if sp_R m k ≠ -1 then -3 else sp_rz (sp_V m k) (m (29 * k + 1)) 3 i := by
  have hf := hw.frm h0 h1
  unfold sp_rdv
  rw [hq.slot h0 h1, if_neg (by omega), show max (m (29 * k + 1)) 3 = 3 by omega]
  by_cases hR : sp_R m k ≠ -1
  · rw [if_pos hR, if_pos hR]
  · rw [if_neg hR, if_neg hR, if_pos (by omega)]
theorem lw_rd4 {F i : Int} (h : F = 4 ∨ i < 0) : sp_rdv m k F i = -2 := by
  unfold sp_rdv
  rw [if_pos (by omega)]
end LWREAD
set_option maxRecDepth 100000 in
set_option maxHeartbeats 4000000 in
theorem c_L_areKept {X : sv_X} {S : sv_S} {f : sv_F} {r : sv_R} {g : sv_G} {m : Int → Int} (hJ : sv_J S r f m) (hS : sv_JS S f) (hg : lw_g (f 478) m) (hq : lw_q (f 479) m)  : sv_C X 6 ML_areKept 2 24 [sv_r 0, sv_r 478, sv_r 479] S f r g (fun rv' S' f' r' g' => ∃ a, rv' = some (sv_i a) ∧ a = 1 ∧ sv_LI S' r' f') := by
  refine sv_met (by decide) (by simp [lg_sl, sv_cv, va_rf, Value.category]) ?_
  obtain ⟨hw, hwg⟩ := hJ.w
  have hgf := hwg.f
  obtain ⟨g0, g12, g13, g14, g15, g16⟩ := id hg
  have hm7 := hq.1
  have hg597 := hwg.r
  have hg596 := hwg.l
  have main : ∀ S2 : sv_S, S2.1 = S.1 + 2 → S2.2 S.1 = (6, 16) → S2.2 (S.1 + 1) = (6, 8) → (∀ x, x < S.1 → S2.2 x = S.2 x) → sv_T X (sv_rm 6 2 24) ML_areKept (sv_Zm X 2 24 (fun rv' S' f' r' g' => ∃ a, rv' = some (sv_i a) ∧ a = 1 ∧ sv_LI S' r' f')) 2 24 11 [some (sv_r 0), some (sv_r 478), some (sv_r 479), some (sv_r S.1), some (sv_r (S.1 + 1)), none, none, none, none, none, none, none, none, none, none, none, none, none] [] S2 (f) r g := by
    intro S2 zS hkA hkB hold
    have h480 := hS.1
    have hJ : sv_J S2 r f m := hJ.gr (by omega) hold
    have hG : 478 < S2.1 ∧ S2.2 478 = (6, 20) := ⟨by omega, by rw [hold _ (by omega)]; exact hS.2.1⟩
    have hb : 479 < S2.1 ∧ S2.2 479 = (6, 64) := ⟨by omega, by rw [hold _ (by omega)]; exact hS.2.2.1⟩
    have ha : S.1 < S2.1 ∧ S2.2 S.1 = (6, 16) := ⟨by omega, hkA⟩
    have hc : S.1 + 1 < S2.1 ∧ S2.2 (S.1 + 1) = (6, 8) := ⟨by omega, hkB⟩
    have hJS : ∀ f' : sv_F, (∀ x, S2.1 ≤ x → f' x = f x) → sv_JS S2 f' := fun f' h => ⟨by omega, hG.2, hb.2, fun x hx => by rw [h x hx]; exact hS.2.2.2 x (by omega)⟩
    have hwc := hw.c
    have lp : ∀ (k1 : Nat) (k : Int) (f1 : sv_F), m 580 - k < (k1 : Int) → (0 ≤ k ∧ k ≤ m 580) → (sv_J S2 r f1 m) → (f1 478 = f 478) → (f1 479 = f 479) → (∀ x, S2.1 ≤ x → f1 x = f x) → sv_T X (sv_rm 6 2 24) ML_areKept (sv_Zm X 2 24 (fun rv' S' f' r' g' => ∃ a, rv' = some (sv_i a) ∧ a = 1 ∧ sv_LI S' r' f')) 2 24 29 [some (sv_r 0), some (sv_r 478), some (sv_r 479), some (sv_r S.1), some (sv_r (S.1 + 1)), some (sv_i k), some (sv_i (sp_cnt (fun s => if m (29 * s + 3) = -1 then 1 else 0) k.toNat)), some (sv_i (sp_cnt (fun s => if sp_R m (m (29 * s)) = -1 then 0 else 1) k.toNat)), some (sv_i (sp_cnt (sp_we m) k.toNat)), some (sv_i (sp_mx (fun s => sp_lk m (m (29 * s))) k.toNat)), some (sv_i k), none, none, none, none, none, none, none] [] S2 (f1) r g := by
      intro k1
      induction k1 with
      | zero =>
        intro k f1 hkk1 hk hJ e478 e479 hbl
        exact absurd hkk1 (by omega)
      | succ k1 ih =>
        intro k f1 hkk1 hk hJ e478 e479 hbl
        have inner : k < m 580 → sv_T X (sv_rm 6 2 24) ML_areKept (sv_Zm X 2 24 (fun rv' S' f' r' g' => ∃ a, rv' = some (sv_i a) ∧ a = 1 ∧ sv_LI S' r' f')) 2 24 38 [some (sv_r 0), some (sv_r 478), some (sv_r 479), some (sv_r S.1), some (sv_r (S.1 + 1)), some (sv_i k), some (sv_i (sp_cnt (fun s => if m (29 * s + 3) = -1 then 1 else 0) k.toNat)), some (sv_i (sp_cnt (fun s => if sp_R m (m (29 * s)) = -1 then 0 else 1) k.toNat)), some (sv_i (sp_cnt (sp_we m) k.toNat)), some (sv_i (sp_mx (fun s => sp_lk m (m (29 * s))) k.toNat)), some (sv_i k), none, none, none, none, none, none, none] [] S2 (f1) r g := by
          intro hk1
          have hkf := hw.frm hk.1 hk1
          have hkb := hq.base hw hk.1 hk1
          have hmy := hw.many hk.1 hk1
          have hsl := hq.slot hk.1 hk1
          have hnum := hq.num hk.1 hk1
          obtain ⟨⟨q0, q1, q2, q4⟩, w0, wc, wp, wr⟩ := hq.row hk.1 hk1
          have q117_1 : sp_R m k = -1 → ∀ vA : Int → Int, ((1 : Int) = 1 → vA 12 = m (29 * k + 1) ∧ ∀ j, 0 ≤ j → j < 6 + 2 * m (29 * k + 1) → vA j = sp_V m k j) → ∀ f7 : sv_F, sv_J S2 r f7 m → f7 478 = f 478 → f7 479 = f 479 → f7 S.1 = vA → (∀ x, S2.1 ≤ x → f7 x = f x) → sv_T X (sv_rm 6 2 24) ML_areKept (sv_Zm X 2 24 (fun rv' S' f' r' g' => ∃ a, rv' = some (sv_i a) ∧ a = 1 ∧ sv_LI S' r' f')) 2 24 117 [some (sv_r 0), some (sv_r 478), some (sv_r 479), some (sv_r S.1), some (sv_r (S.1 + 1)), some (sv_i k), some (sv_i (sp_cnt (fun s => if m (29 * s + 3) = -1 then 1 else 0) k.toNat)), some (sv_i (sp_cnt (fun s => if sp_R m (m (29 * s)) = -1 then 0 else 1) k.toNat)), some (sv_i (sp_cnt (sp_we m) k.toNat)), some (sv_i (sp_mx (fun s => sp_lk m (m (29 * s))) k.toNat)), some (sv_i k), some (sv_i 1), none, none, none, none, none, none] [] S2 (f7) r g := by
            intro hR
            have p578 : ∀ (f9 : sv_F) (vA : Int → Int), sv_J S2 r f9 m → f9 478 = f 478 → f9 479 = f 479 → f9 S.1 = vA → (∀ x, S2.1 ≤ x → f9 x = f x) → sv_T X (sv_rm 6 2 24) ML_areKept (sv_Zm X 2 24 (fun rv' S' f' r' g' => ∃ a, rv' = some (sv_i a) ∧ a = 1 ∧ sv_LI S' r' f')) 2 24 578 [some (sv_r 0), some (sv_r 478), some (sv_r 479), some (sv_r S.1), some (sv_r (S.1 + 1)), some (sv_i k), some (sv_i (sp_cnt (fun s => if m (29 * s + 3) = -1 then 1 else 0) k.toNat)), some (sv_i (sp_cnt (fun s => if sp_R m (m (29 * s)) = -1 then 0 else 1) k.toNat)), some (sv_i (sp_cnt (sp_we m) k.toNat)), some (sv_i (sp_mx (fun s => sp_lk m (m (29 * s))) k.toNat)), some (sv_i k), some (sv_i 1), some (sv_i (m (29 * k + 4))), some (sv_i (sp_we m k)), none, none, none, none] [] S2 (f9) r g := by
              intro f9 vA hJ e478 e479 eA hbl
              have hlkb := sp_lk_bd hw (n := k) hk.1
              refine sv_iinc dL_areKept_578 rfl (by decide) rfl ?_
              refine sv_iload dL_areKept_581 rfl ?_
              refine sv_aload_n (i := 2) dL_areKept_583 rfl rfl ?_
              refine sv_bipush dL_areKept_584 (by decide) ?_
              refine sv_iload dL_areKept_586 rfl ?_
              refine sv_imul dL_areKept_588 ?_
              refine sv_iconst dL_areKept_589 ?_
              refine sv_iadd dL_areKept_590 ?_
              refine sv_iald dL_areKept_591 hb.1 hb.2 (by omega) ?_
              rw [e479, q2]
              refine sv_iconst dL_areKept_592 ?_
              refine sv_icmp_ne (tgt := 600) dL_areKept_593 (by decide) (by unfold sv_in; omega) (by decide) (fun h_593 => ?_) (fun h_593 => ?_)
              · refine sv_iconst dL_areKept_600 ?_
                refine sv_iadd dL_areKept_601 ?_
                first
                | rw [show sp_cnt (fun s => if m (29 * s + 3) = -1 then 1 else 0) k.toNat + 1 = sp_cnt (fun s => if m (29 * s + 3) = -1 then 1 else 0) (k + 1).toNat by rw [sp_cnt_s hk.1]; (try dsimp only); rw [if_pos (by assumption)]]
                | rw [show sp_cnt (fun s => if m (29 * s + 3) = -1 then 1 else 0) k.toNat + 0 = sp_cnt (fun s => if m (29 * s + 3) = -1 then 1 else 0) (k + 1).toNat by rw [sp_cnt_s hk.1]; (try dsimp only); rw [if_neg (by assumption)]]
                refine sv_istore dL_areKept_602 (by decide) rfl ?_
                refine sv_iload dL_areKept_604 rfl ?_
                refine sv_iload dL_areKept_606 rfl ?_
                refine sv_if_eq (tgt := 615) dL_areKept_608 (by decide) (by decide) (fun h_608 => absurd h_608 (by decide)) (fun h_608 => ?_)
                refine sv_iconst dL_areKept_611 ?_
                refine sv_goto (tgt := 616) dL_areKept_612 (by decide) ?_
                refine sv_iadd dL_areKept_616 ?_
                rw [show sp_cnt (fun s => if sp_R m (m (29 * s)) = -1 then 0 else 1) k.toNat + 0 = sp_cnt (fun s => if sp_R m (m (29 * s)) = -1 then 0 else 1) (k + 1).toNat by rw [sp_cnt_s hk.1]; (try dsimp only); rw [hnum, if_pos hR]]
                refine sv_istore dL_areKept_617 (by decide) rfl ?_
                refine sv_iload dL_areKept_619 rfl ?_
                refine sv_iload dL_areKept_621 rfl ?_
                refine sv_iadd dL_areKept_623 ?_
                rw [show sp_cnt (sp_we m) k.toNat + sp_we m k = sp_cnt (sp_we m) (k + 1).toNat by rw [sp_cnt_s hk.1]]
                refine sv_istore dL_areKept_624 (by decide) rfl ?_
                refine sv_aload_n (i := 2) dL_areKept_626 rfl rfl ?_
                refine sv_iload dL_areKept_627 rfl ?_
                refine sv_sp0 (As := [_, _]) clL_15 dL_areKept_629 rfl (Nat.le_of_ble_eq_true rfl) (by decide) (by decide) (c_L_links (b := 479) hb hw (by rw [e479]; exact hq) ⟨hk.1, hk1⟩) ?_
                refine sv_iload dL_areKept_632 rfl ?_
                refine sv_icmp_le (tgt := 646) dL_areKept_634 (by decide) (by unfold sv_in; omega) (by have := sp_mx_in (q := (fun s => sp_lk m (m (29 * s)))) (b := 30) (by decide) k.toNat (fun i a b => by (try dsimp only); rw [hq.num (s := i) a (by omega)]; have := sp_lk_bd hw (n := i) a; omega); unfold sv_in; omega) (fun h_634 => ?_) (fun h_634 => ?_)
                · refine sv_iload dL_areKept_646 rfl ?_
                  first
                  | rw [show sp_lk m k = sp_mx (fun s => sp_lk m (m (29 * s))) (k + 1).toNat by rw [sp_mx_s hk.1]; (try dsimp only); rw [hnum]; omega]
                  | rw [show sp_mx (fun s => sp_lk m (m (29 * s))) k.toNat = sp_mx (fun s => sp_lk m (m (29 * s))) (k + 1).toNat by rw [sp_mx_s hk.1]; (try dsimp only); rw [hnum]; omega]
                  refine sv_istore dL_areKept_648 (by decide) rfl ?_
                  refine sv_iinc dL_areKept_650 rfl (by decide) rfl ?_
                  refine sv_goto (tgt := 29) dL_areKept_653 (by decide) ?_
                  refine sv_wk (ih (k + 1) _ (by omega) ⟨by omega, by omega⟩ hJ e478 e479 hbl) (by simp [sv_sub]) rfl
                · refine sv_aload_n (i := 2) dL_areKept_637 rfl rfl ?_
                  refine sv_iload dL_areKept_638 rfl ?_
                  refine sv_sp0 (As := [_, _]) clL_15 dL_areKept_640 rfl (Nat.le_of_ble_eq_true rfl) (by decide) (by decide) (c_L_links (b := 479) hb hw (by rw [e479]; exact hq) ⟨hk.1, hk1⟩) ?_
                  refine sv_goto (tgt := 648) dL_areKept_643 (by decide) ?_
                  first
                  | rw [show sp_lk m k = sp_mx (fun s => sp_lk m (m (29 * s))) (k + 1).toNat by rw [sp_mx_s hk.1]; (try dsimp only); rw [hnum]; omega]
                  | rw [show sp_mx (fun s => sp_lk m (m (29 * s))) k.toNat = sp_mx (fun s => sp_lk m (m (29 * s))) (k + 1).toNat by rw [sp_mx_s hk.1]; (try dsimp only); rw [hnum]; omega]
                  refine sv_istore dL_areKept_648 (by decide) rfl ?_
                  refine sv_iinc dL_areKept_650 rfl (by decide) rfl ?_
                  refine sv_goto (tgt := 29) dL_areKept_653 (by decide) ?_
                  refine sv_wk (ih (k + 1) _ (by omega) ⟨by omega, by omega⟩ hJ e478 e479 hbl) (by simp [sv_sub]) rfl
              · refine sv_iconst dL_areKept_596 ?_
                refine sv_goto (tgt := 601) dL_areKept_597 (by decide) ?_
                refine sv_iadd dL_areKept_601 ?_
                first
                | rw [show sp_cnt (fun s => if m (29 * s + 3) = -1 then 1 else 0) k.toNat + 1 = sp_cnt (fun s => if m (29 * s + 3) = -1 then 1 else 0) (k + 1).toNat by rw [sp_cnt_s hk.1]; (try dsimp only); rw [if_pos (by assumption)]]
                | rw [show sp_cnt (fun s => if m (29 * s + 3) = -1 then 1 else 0) k.toNat + 0 = sp_cnt (fun s => if m (29 * s + 3) = -1 then 1 else 0) (k + 1).toNat by rw [sp_cnt_s hk.1]; (try dsimp only); rw [if_neg (by assumption)]]
                refine sv_istore dL_areKept_602 (by decide) rfl ?_
                refine sv_iload dL_areKept_604 rfl ?_
                refine sv_iload dL_areKept_606 rfl ?_
                refine sv_if_eq (tgt := 615) dL_areKept_608 (by decide) (by decide) (fun h_608 => absurd h_608 (by decide)) (fun h_608 => ?_)
                refine sv_iconst dL_areKept_611 ?_
                refine sv_goto (tgt := 616) dL_areKept_612 (by decide) ?_
                refine sv_iadd dL_areKept_616 ?_
                rw [show sp_cnt (fun s => if sp_R m (m (29 * s)) = -1 then 0 else 1) k.toNat + 0 = sp_cnt (fun s => if sp_R m (m (29 * s)) = -1 then 0 else 1) (k + 1).toNat by rw [sp_cnt_s hk.1]; (try dsimp only); rw [hnum, if_pos hR]]
                refine sv_istore dL_areKept_617 (by decide) rfl ?_
                refine sv_iload dL_areKept_619 rfl ?_
                refine sv_iload dL_areKept_621 rfl ?_
                refine sv_iadd dL_areKept_623 ?_
                rw [show sp_cnt (sp_we m) k.toNat + sp_we m k = sp_cnt (sp_we m) (k + 1).toNat by rw [sp_cnt_s hk.1]]
                refine sv_istore dL_areKept_624 (by decide) rfl ?_
                refine sv_aload_n (i := 2) dL_areKept_626 rfl rfl ?_
                refine sv_iload dL_areKept_627 rfl ?_
                refine sv_sp0 (As := [_, _]) clL_15 dL_areKept_629 rfl (Nat.le_of_ble_eq_true rfl) (by decide) (by decide) (c_L_links (b := 479) hb hw (by rw [e479]; exact hq) ⟨hk.1, hk1⟩) ?_
                refine sv_iload dL_areKept_632 rfl ?_
                refine sv_icmp_le (tgt := 646) dL_areKept_634 (by decide) (by unfold sv_in; omega) (by have := sp_mx_in (q := (fun s => sp_lk m (m (29 * s)))) (b := 30) (by decide) k.toNat (fun i a b => by (try dsimp only); rw [hq.num (s := i) a (by omega)]; have := sp_lk_bd hw (n := i) a; omega); unfold sv_in; omega) (fun h_634 => ?_) (fun h_634 => ?_)
                · refine sv_iload dL_areKept_646 rfl ?_
                  first
                  | rw [show sp_lk m k = sp_mx (fun s => sp_lk m (m (29 * s))) (k + 1).toNat by rw [sp_mx_s hk.1]; (try dsimp only); rw [hnum]; omega]
                  | rw [show sp_mx (fun s => sp_lk m (m (29 * s))) k.toNat = sp_mx (fun s => sp_lk m (m (29 * s))) (k + 1).toNat by rw [sp_mx_s hk.1]; (try dsimp only); rw [hnum]; omega]
                  refine sv_istore dL_areKept_648 (by decide) rfl ?_
                  refine sv_iinc dL_areKept_650 rfl (by decide) rfl ?_
                  refine sv_goto (tgt := 29) dL_areKept_653 (by decide) ?_
                  refine sv_wk (ih (k + 1) _ (by omega) ⟨by omega, by omega⟩ hJ e478 e479 hbl) (by simp [sv_sub]) rfl
                · refine sv_aload_n (i := 2) dL_areKept_637 rfl rfl ?_
                  refine sv_iload dL_areKept_638 rfl ?_
                  refine sv_sp0 (As := [_, _]) clL_15 dL_areKept_640 rfl (Nat.le_of_ble_eq_true rfl) (by decide) (by decide) (c_L_links (b := 479) hb hw (by rw [e479]; exact hq) ⟨hk.1, hk1⟩) ?_
                  refine sv_goto (tgt := 648) dL_areKept_643 (by decide) ?_
                  first
                  | rw [show sp_lk m k = sp_mx (fun s => sp_lk m (m (29 * s))) (k + 1).toNat by rw [sp_mx_s hk.1]; (try dsimp only); rw [hnum]; omega]
                  | rw [show sp_mx (fun s => sp_lk m (m (29 * s))) k.toNat = sp_mx (fun s => sp_lk m (m (29 * s))) (k + 1).toNat by rw [sp_mx_s hk.1]; (try dsimp only); rw [hnum]; omega]
                  refine sv_istore dL_areKept_648 (by decide) rfl ?_
                  refine sv_iinc dL_areKept_650 rfl (by decide) rfl ?_
                  refine sv_goto (tgt := 29) dL_areKept_653 (by decide) ?_
                  refine sv_wk (ih (k + 1) _ (by omega) ⟨by omega, by omega⟩ hJ e478 e479 hbl) (by simp [sv_sub]) rfl
            have p487 : ∀ (f9 : sv_F) (vA : Int → Int), sv_J S2 r f9 m → f9 478 = f 478 → f9 479 = f 479 → f9 S.1 = vA → (∀ x, S2.1 ≤ x → f9 x = f x) → (∀ j, 0 ≤ j → j < 12 → vA j = sp_rz (sp_V m k) (m (29 * k + 1)) 3 j) → sv_T X (sv_rm 6 2 24) ML_areKept (sv_Zm X 2 24 (fun rv' S' f' r' g' => ∃ a, rv' = some (sv_i a) ∧ a = 1 ∧ sv_LI S' r' f')) 2 24 487 [some (sv_r 0), some (sv_r 478), some (sv_r 479), some (sv_r S.1), some (sv_r (S.1 + 1)), some (sv_i k), some (sv_i (sp_cnt (fun s => if m (29 * s + 3) = -1 then 1 else 0) k.toNat)), some (sv_i (sp_cnt (fun s => if sp_R m (m (29 * s)) = -1 then 0 else 1) k.toNat)), some (sv_i (sp_cnt (sp_we m) k.toNat)), some (sv_i (sp_mx (fun s => sp_lk m (m (29 * s))) k.toNat)), some (sv_i k), some (sv_i 1), some (sv_i (m (29 * k + 4))), some (sv_i (sp_we m k)), none, none, none, none] [] S2 (f9) r g := by
              intro f9 vA hJ e478 e479 eA hbl hvA
              refine sv_aload_n (i := 0) dL_areKept_487 rfl rfl ?_
              refine sv_iload dL_areKept_488 rfl ?_
              refine sv_iconst dL_areKept_490 ?_
              refine sv_bipush dL_areKept_491 (by decide) ?_
              refine sv_vi0 (As := [_, _, _]) clL_108 dL_areKept_493 ⟨_, rfl, rfl⟩ (by decide) rfl (Nat.le_of_ble_eq_true rfl) (by decide) (by decide) hJ.k.1 hJ.k.2 (J_read hJ k 3 11 (by unfold sv_in; omega) (by decide) (by first | decide | (unfold sv_in; omega))) (fun a201 f201 hf201 => ?_)
              obtain ⟨ha201, hJ, hx201⟩ := hf201
              have e478 : f201 478 = f 478 := (hx201 478 (by omega)).trans e478
              have e479 : f201 479 = f 479 := (hx201 479 (by omega)).trans e479
              have eA : f201 S.1 = vA := (hx201 S.1 (by omega)).trans eA
              have hbl : ∀ x, S2.1 ≤ x → f201 x = f x := fun x h => (hx201 x (by omega)).trans (hbl x h)
              refine sv_iload dL_areKept_496 rfl ?_
              refine sv_if_eq (tgt := 508) dL_areKept_498 (by decide) (by decide) (fun h_498 => absurd h_498 (by decide)) (fun h_498 => ?_)
              refine sv_aload_n (i := 3) dL_areKept_501 rfl rfl ?_
              refine sv_bipush dL_areKept_502 (by decide) ?_
              refine sv_iald dL_areKept_504 ha.1 ha.2 (by decide) ?_
              refine sv_goto (tgt := 510) dL_areKept_505 (by decide) ?_
              rw [eA]
              refine sv_icmp_neT (tgt := 576) dL_areKept_510 (by decide) (by rw [ha201, lw_rd3 hq hw hk.1 hk1 (by decide), if_neg (fun z => z hR)]; exact (hvA 11 (by decide) (by decide)).symm) ?_
              refine sv_aload_n (i := 0) dL_areKept_513 rfl rfl ?_
              refine sv_iload dL_areKept_514 rfl ?_
              refine sv_iconst dL_areKept_516 ?_
              refine sv_iconst dL_areKept_517 ?_
              refine sv_vi0 (As := [_, _, _]) clL_108 dL_areKept_518 ⟨_, rfl, rfl⟩ (by decide) rfl (Nat.le_of_ble_eq_true rfl) (by decide) (by decide) hJ.k.1 hJ.k.2 (J_read hJ k 3 1 (by unfold sv_in; omega) (by decide) (by first | decide | (unfold sv_in; omega))) (fun a202 f202 hf202 => ?_)
              obtain ⟨ha202, hJ, hx202⟩ := hf202
              have e478 : f202 478 = f 478 := (hx202 478 (by omega)).trans e478
              have e479 : f202 479 = f 479 := (hx202 479 (by omega)).trans e479
              have eA : f202 S.1 = vA := (hx202 S.1 (by omega)).trans eA
              have hbl : ∀ x, S2.1 ≤ x → f202 x = f x := fun x h => (hx202 x (by omega)).trans (hbl x h)
              refine sv_iload dL_areKept_521 rfl ?_
              refine sv_if_eq (tgt := 532) dL_areKept_523 (by decide) (by decide) (fun h_523 => absurd h_523 (by decide)) (fun h_523 => ?_)
              refine sv_aload_n (i := 3) dL_areKept_526 rfl rfl ?_
              refine sv_iconst dL_areKept_527 ?_
              refine sv_iald dL_areKept_528 ha.1 ha.2 (by decide) ?_
              refine sv_goto (tgt := 534) dL_areKept_529 (by decide) ?_
              rw [eA]
              refine sv_icmp_neT (tgt := 576) dL_areKept_534 (by decide) (by rw [ha202, lw_rd3 hq hw hk.1 hk1 (by decide), if_neg (fun z => z hR)]; exact (hvA 1 (by decide) (by decide)).symm) ?_
              refine sv_aload_n (i := 0) dL_areKept_537 rfl rfl ?_
              refine sv_iload dL_areKept_538 rfl ?_
              refine sv_iconst dL_areKept_540 ?_
              refine sv_iconst dL_areKept_541 ?_
              refine sv_vi0 (As := [_, _, _]) clL_108 dL_areKept_542 ⟨_, rfl, rfl⟩ (by decide) rfl (Nat.le_of_ble_eq_true rfl) (by decide) (by decide) hJ.k.1 hJ.k.2 (J_read hJ k 4 0 (by unfold sv_in; omega) (by decide) (by first | decide | (unfold sv_in; omega))) (fun a203 f203 hf203 => ?_)
              obtain ⟨ha203, hJ, hx203⟩ := hf203
              have e478 : f203 478 = f 478 := (hx203 478 (by omega)).trans e478
              have e479 : f203 479 = f 479 := (hx203 479 (by omega)).trans e479
              have eA : f203 S.1 = vA := (hx203 S.1 (by omega)).trans eA
              have hbl : ∀ x, S2.1 ≤ x → f203 x = f x := fun x h => (hx203 x (by omega)).trans (hbl x h)
              refine sv_bipush dL_areKept_545 (by decide) ?_
              refine sv_icmp_neT (tgt := 576) dL_areKept_547 (by decide) (by rw [ha203]; exact lw_rd4 (Or.inl rfl)) ?_
              refine sv_aload_n (i := 0) dL_areKept_550 rfl rfl ?_
              refine sv_iload dL_areKept_551 rfl ?_
              refine sv_iconst dL_areKept_553 ?_
              refine sv_iconst dL_areKept_554 ?_
              refine sv_vi0 (As := [_, _, _]) clL_108 dL_areKept_555 ⟨_, rfl, rfl⟩ (by decide) rfl (Nat.le_of_ble_eq_true rfl) (by decide) (by decide) hJ.k.1 hJ.k.2 (J_read hJ k 0 (-1) (by unfold sv_in; omega) (by decide) (by first | decide | (unfold sv_in; omega))) (fun a204 f204 hf204 => ?_)
              obtain ⟨ha204, hJ, hx204⟩ := hf204
              have e478 : f204 478 = f 478 := (hx204 478 (by omega)).trans e478
              have e479 : f204 479 = f 479 := (hx204 479 (by omega)).trans e479
              have eA : f204 S.1 = vA := (hx204 S.1 (by omega)).trans eA
              have hbl : ∀ x, S2.1 ≤ x → f204 x = f x := fun x h => (hx204 x (by omega)).trans (hbl x h)
              refine sv_bipush dL_areKept_558 (by decide) ?_
              refine sv_icmp_neT (tgt := 576) dL_areKept_560 (by decide) (by rw [ha204]; exact lw_rd4 (Or.inr (by decide))) ?_
              refine sv_aload_n (i := 0) dL_areKept_563 rfl rfl ?_
              refine sv_iload dL_areKept_564 rfl ?_
              refine sv_iload dL_areKept_566 rfl ?_
              refine sv_iconst dL_areKept_568 ?_
              refine sv_vp0 (As := [_, _, _]) clL_104 dL_areKept_569 ⟨_, rfl, rfl⟩ (by decide) rfl (Nat.le_of_ble_eq_true rfl) (by decide) (by decide) hJ.k.1 hJ.k.2 (J_entry hJ k _ 0 (by unfold sv_in; omega) (by unfold sv_in; omega) (by decide)) ?_
              refine sv_iconst dL_areKept_572 ?_
              refine sv_icmp_eqT (tgt := 578) dL_areKept_573 (by decide) (by rw [hsl, if_neg (by omega), if_pos (by omega)]) ?_
              exact sv_wk (p578 _ vA hJ e478 e479 eA hbl) (by simp [sv_sub]) rfl
            have lp7 : ∀ (k7 : Nat) (vA : Int → Int) (f9 : sv_F), 3 - vA 12 < (k7 : Int) → (sv_J S2 r f9 m) → (f9 478 = f 478) → (f9 479 = f 479) → (f9 S.1 = vA) → (∀ x, S2.1 ≤ x → f9 x = f x) → (1 ≤ vA 12 ∧ vA 12 ≤ 3) → (sp_ok vA (6 + 2 * vA 12)) → (∀ j, 0 ≤ j → j < 12 → lw_to vA 3 j = sp_rz (sp_V m k) (m (29 * k + 1)) 3 j) → sv_T X (sv_rm 6 2 24) ML_areKept (sv_Zm X 2 24 (fun rv' S' f' r' g' => ∃ a, rv' = some (sv_i a) ∧ a = 1 ∧ sv_LI S' r' f')) 2 24 467 [some (sv_r 0), some (sv_r 478), some (sv_r 479), some (sv_r S.1), some (sv_r (S.1 + 1)), some (sv_i k), some (sv_i (sp_cnt (fun s => if m (29 * s + 3) = -1 then 1 else 0) k.toNat)), some (sv_i (sp_cnt (fun s => if sp_R m (m (29 * s)) = -1 then 0 else 1) k.toNat)), some (sv_i (sp_cnt (sp_we m) k.toNat)), some (sv_i (sp_mx (fun s => sp_lk m (m (29 * s))) k.toNat)), some (sv_i k), some (sv_i 1), some (sv_i (m (29 * k + 4))), some (sv_i (sp_we m k)), none, none, none, none] [] S2 (f9) r g := by
              intro k7
              induction k7 with
              | zero =>
                intro vA f9 hk7 hJ e478 e479 eA hbl o2 o4 o5
                exact absurd hk7 (by omega)
              | succ k7 ih7 =>
                intro vA f9 hk7 hJ e478 e479 eA hbl o2 o4 o5
                refine sv_iload dL_areKept_467 rfl ?_
                refine sv_if_eq (tgt := 487) dL_areKept_469 (by decide) (by decide) (fun h_469 => absurd h_469 (by decide)) (fun h_469 => ?_)
                refine sv_aload_n (i := 3) dL_areKept_472 rfl rfl ?_
                refine sv_bipush dL_areKept_473 (by decide) ?_
                refine sv_iald dL_areKept_475 ha.1 ha.2 (by decide) ?_
                rw [eA]
                refine sv_iconst dL_areKept_476 ?_
                refine sv_icmp_ge (tgt := 487) dL_areKept_477 (by decide) (by unfold sv_in; omega) (by decide) (fun h_477 => ?_) (fun h_477 => ?_)
                · refine p487 f9 vA hJ e478 e479 eA hbl (fun j j0 j1 => ?_)
                  have := o5 j j0 j1
                  rw [lw_to_id (by omega)] at this
                  exact this
                · refine sv_aload_n (i := 3) dL_areKept_480 rfl rfl ?_
                  refine sv_sv0 (As := [_]) clL_23 dL_areKept_481 rfl (Nat.le_of_ble_eq_true rfl) (by decide) (by decide) (c_L_raises (a := S.1) ha (by decide) (by rw [eA]; omega) (by rw [eA]; exact o4)) (fun f3 hf3 => ?_)
                  refine sv_goto (tgt := 467) dL_areKept_484 (by decide) ?_
                  subst hf3
                  have e12 : lw_up vA 12 = vA 12 + 1 := if_pos rfl
                  refine ih7 (lw_up vA) (sv_row f9 S.1 (lw_up (f9 S.1))) ?_ (hJ.hi fun x hx => sv_row_ne (by omega)) (by rw [sv_row_ne (by omega)]; exact e478) (by rw [sv_row_ne (by omega)]; exact e479) (by rw [sv_row_eq, eA]) (fun x hx => by rw [sv_row_ne (by omega)]; exact hbl x hx) ?_ ?_ (fun j j0 j1 => ?_)
                  · rw [e12]; omega
                  · rw [e12]; omega
                  · exact lw_up_ok (by omega) o4
                  · rw [lw_to_up (by omega) (by omega) (by omega)]; exact o5 j j0 j1
            have l346 : ∀ vA : Int → Int, ((1 : Int) = 1 → vA 12 = m (29 * k + 1) ∧ ∀ j, 0 ≤ j → j < 6 + 2 * m (29 * k + 1) → vA j = sp_V m k j) → ∀ f7 : sv_F, sv_J S2 r f7 m → f7 478 = f 478 → f7 479 = f 479 → f7 S.1 = vA → (∀ x, S2.1 ≤ x → f7 x = f x) → sv_T X (sv_rm 6 2 24) ML_areKept (sv_Zm X 2 24 (fun rv' S' f' r' g' => ∃ a, rv' = some (sv_i a) ∧ a = 1 ∧ sv_LI S' r' f')) 2 24 346 [some (sv_r 0), some (sv_r 478), some (sv_r 479), some (sv_r S.1), some (sv_r (S.1 + 1)), some (sv_i k), some (sv_i (sp_cnt (fun s => if m (29 * s + 3) = -1 then 1 else 0) k.toNat)), some (sv_i (sp_cnt (fun s => if sp_R m (m (29 * s)) = -1 then 0 else 1) k.toNat)), some (sv_i (sp_cnt (sp_we m) k.toNat)), some (sv_i (sp_mx (fun s => sp_lk m (m (29 * s))) k.toNat)), some (sv_i k), some (sv_i 1), some (sv_i (m (29 * k + 4))), some (sv_i (sp_we m k)), some (sv_i (sp_bo m k)), some (sv_i 0), some (sv_i 0), none] [] S2 (f7) r g := by
              intro vA hV f7 hJ e478 e479 eA hbl
              have lp6 : ∀ (k6 : Nat) (p : Int) (f7 : sv_F), 12 - p < (k6 : Int) → (0 ≤ p ∧ p ≤ 12) → (sv_J S2 r f7 m) → (f7 478 = f 478) → (f7 479 = f 479) → (f7 S.1 = vA) → (∀ x, S2.1 ≤ x → f7 x = f x) → sv_T X (sv_rm 6 2 24) ML_areKept (sv_Zm X 2 24 (fun rv' S' f' r' g' => ∃ a, rv' = some (sv_i a) ∧ a = 1 ∧ sv_LI S' r' f')) 2 24 346 [some (sv_r 0), some (sv_r 478), some (sv_r 479), some (sv_r S.1), some (sv_r (S.1 + 1)), some (sv_i k), some (sv_i (sp_cnt (fun s => if m (29 * s + 3) = -1 then 1 else 0) k.toNat)), some (sv_i (sp_cnt (fun s => if sp_R m (m (29 * s)) = -1 then 0 else 1) k.toNat)), some (sv_i (sp_cnt (sp_we m) k.toNat)), some (sv_i (sp_mx (fun s => sp_lk m (m (29 * s))) k.toNat)), some (sv_i k), some (sv_i 1), some (sv_i (m (29 * k + 4))), some (sv_i (sp_we m k)), some (sv_i (sp_bo m k)), some (sv_i (lw_c (f 479 (8 * k + 3)) p.toNat)), some (sv_i p), none] [] S2 (f7) r g := by
                intro k6
                induction k6 with
                | zero =>
                  intro p f7 hk6 p0 hJ e478 e479 eA hbl
                  exact absurd hk6 (by omega)
                | succ k6 ih6 =>
                  intro p f7 hk6 p0 hJ e478 e479 eA hbl
                  obtain ⟨p0, p1⟩ := p0
                  have hci := lw_c_in (f 479 (8 * k + 3)) p.toNat
                  have p410 : ∀ f8 : sv_F, p < 12 → sv_J S2 r f8 m → f8 478 = f 478 → f8 479 = f 479 → f8 S.1 = vA → (∀ x, S2.1 ≤ x → f8 x = f x) → sv_T X (sv_rm 6 2 24) ML_areKept (sv_Zm X 2 24 (fun rv' S' f' r' g' => ∃ a, rv' = some (sv_i a) ∧ a = 1 ∧ sv_LI S' r' f')) 2 24 410 [some (sv_r 0), some (sv_r 478), some (sv_r 479), some (sv_r S.1), some (sv_r (S.1 + 1)), some (sv_i k), some (sv_i (sp_cnt (fun s => if m (29 * s + 3) = -1 then 1 else 0) k.toNat)), some (sv_i (sp_cnt (fun s => if sp_R m (m (29 * s)) = -1 then 0 else 1) k.toNat)), some (sv_i (sp_cnt (sp_we m) k.toNat)), some (sv_i (sp_mx (fun s => sp_lk m (m (29 * s))) k.toNat)), some (sv_i k), some (sv_i 1), some (sv_i (m (29 * k + 4))), some (sv_i (sp_we m k)), some (sv_i (sp_bo m k)), some (sv_i (lw_c (f 479 (8 * k + 3)) (p + 1).toNat)), some (sv_i p), none] [] S2 (f8) r g := by
                    intro f8 hp12 hJ e478 e479 eA hbl
                    refine sv_iload dL_areKept_410 rfl ?_
                    refine sv_if_ne (tgt := 420) dL_areKept_412 (by decide) (by decide) (fun h_412 => ?_) (fun h_412 => absurd h_412 (by decide))
                    refine sv_iload dL_areKept_420 rfl ?_
                    refine sv_aload_n (i := 2) dL_areKept_422 rfl rfl ?_
                    refine sv_bipush dL_areKept_423 (by decide) ?_
                    refine sv_iload dL_areKept_425 rfl ?_
                    refine sv_imul dL_areKept_427 ?_
                    refine sv_iald dL_areKept_428 hb.1 hb.2 (by omega) ?_
                    rw [e479, q0]
                    refine sv_sp0 (As := [_]) clL_11 dL_areKept_429 rfl (Nat.le_of_ble_eq_true rfl) (by decide) (by decide) (c_L_many (by omega)) ?_
                    refine sv_icmp_ge (tgt := 442) dL_areKept_432 (by decide) (by unfold sv_in; omega) (by unfold sv_in; omega) (fun h_432 => ?_) (fun h_432 => ?_)
                    · refine sv_iconst dL_areKept_442 ?_
                      refine sv_istore dL_areKept_443 (by decide) rfl ?_
                      refine sv_aload_n (i := 0) dL_areKept_445 rfl rfl ?_
                      refine sv_iload dL_areKept_446 rfl ?_
                      refine sv_iconst dL_areKept_448 ?_
                      refine sv_iload dL_areKept_449 rfl ?_
                      refine sv_vi0 (As := [_, _, _]) clL_108 dL_areKept_451 ⟨_, rfl, rfl⟩ (by decide) rfl (Nat.le_of_ble_eq_true rfl) (by decide) (by decide) hJ.k.1 hJ.k.2 (J_read hJ k 0 p (by unfold sv_in; omega) (by decide) (by first | decide | (unfold sv_in; omega))) (fun a101 f101 hf101 => ?_)
                      obtain ⟨ha101, hJ, hx101⟩ := hf101
                      have e478 : f101 478 = f 478 := (hx101 478 (by omega)).trans e478
                      have e479 : f101 479 = f 479 := (hx101 479 (by omega)).trans e479
                      have eA : f101 S.1 = vA := (hx101 S.1 (by omega)).trans eA
                      have hbl : ∀ x, S2.1 ≤ x → f101 x = f x := fun x h => (hx101 x (by omega)).trans (hbl x h)
                      refine sv_iload dL_areKept_454 rfl ?_
                      refine sv_icmp_eqT (tgt := 461) dL_areKept_456 (by decide) (by
                        rw [ha101, lw_rd0 hq hw hk.1 hk1 p0, if_neg (fun z => z hR)]
                        first
                        | rw [if_neg (by omega)]
                        | rw [if_pos (by omega), (hV rfl).2 p p0 (by omega)]) ?_
                      refine sv_iinc dL_areKept_461 rfl (by decide) rfl ?_
                      refine sv_goto (tgt := 346) dL_areKept_464 (by decide) ?_
                      refine sv_wk (ih6 (p + 1) _ (by omega) ⟨by omega, by omega⟩ hJ e478 e479 eA hbl) (by simp [sv_sub]) rfl
                    · refine sv_aload_n (i := 3) dL_areKept_435 rfl rfl ?_
                      refine sv_iload dL_areKept_436 rfl ?_
                      refine sv_iald dL_areKept_438 ha.1 ha.2 (by omega) ?_
                      rw [eA]
                      refine sv_goto (tgt := 443) dL_areKept_439 (by decide) ?_
                      refine sv_istore dL_areKept_443 (by decide) rfl ?_
                      refine sv_aload_n (i := 0) dL_areKept_445 rfl rfl ?_
                      refine sv_iload dL_areKept_446 rfl ?_
                      refine sv_iconst dL_areKept_448 ?_
                      refine sv_iload dL_areKept_449 rfl ?_
                      refine sv_vi0 (As := [_, _, _]) clL_108 dL_areKept_451 ⟨_, rfl, rfl⟩ (by decide) rfl (Nat.le_of_ble_eq_true rfl) (by decide) (by decide) hJ.k.1 hJ.k.2 (J_read hJ k 0 p (by unfold sv_in; omega) (by decide) (by first | decide | (unfold sv_in; omega))) (fun a101 f101 hf101 => ?_)
                      obtain ⟨ha101, hJ, hx101⟩ := hf101
                      have e478 : f101 478 = f 478 := (hx101 478 (by omega)).trans e478
                      have e479 : f101 479 = f 479 := (hx101 479 (by omega)).trans e479
                      have eA : f101 S.1 = vA := (hx101 S.1 (by omega)).trans eA
                      have hbl : ∀ x, S2.1 ≤ x → f101 x = f x := fun x h => (hx101 x (by omega)).trans (hbl x h)
                      refine sv_iload dL_areKept_454 rfl ?_
                      refine sv_icmp_eqT (tgt := 461) dL_areKept_456 (by decide) (by
                        rw [ha101, lw_rd0 hq hw hk.1 hk1 p0, if_neg (fun z => z hR)]
                        first
                        | rw [if_neg (by omega)]
                        | rw [if_pos (by omega), (hV rfl).2 p p0 (by omega)]) ?_
                      refine sv_iinc dL_areKept_461 rfl (by decide) rfl ?_
                      refine sv_goto (tgt := 346) dL_areKept_464 (by decide) ?_
                      refine sv_wk (ih6 (p + 1) _ (by omega) ⟨by omega, by omega⟩ hJ e478 e479 eA hbl) (by simp [sv_sub]) rfl
                  refine sv_iload dL_areKept_346 rfl ?_
                  refine sv_bipush dL_areKept_348 (by decide) ?_
                  refine sv_icmp_ge (tgt := 467) dL_areKept_350 (by decide) (by unfold sv_in; omega) (by decide) (fun h_350 => ?_) (fun h_350 => ?_)
                  · first
                    | (obtain ⟨v1, v2⟩ := hV rfl
                       have hok := sp_V_ok' hw hR
                       rw [hsl] at hok
                       refine sv_wk (lp7 4 vA _ (by omega) hJ e478 e479 eA hbl (by omega) (by rw [v1]; exact fun j j0 j1 => by rw [v2 j j0 j1]; exact hok j j0 j1) (fun j j0 j1 => ?_)) (by simp [sv_sub]) rfl
                       unfold lw_to
                       rw [if_neg (by omega), v1]
                       exact sp_rz_congr hkf.1 hkf.2 (by decide) v2 j j0 j1)
                  · refine sv_aload_n (i := 2) dL_areKept_353 rfl rfl ?_
                    refine sv_bipush dL_areKept_354 (by decide) ?_
                    refine sv_iload dL_areKept_356 rfl ?_
                    refine sv_imul dL_areKept_358 ?_
                    refine sv_iconst dL_areKept_359 ?_
                    refine sv_iadd dL_areKept_360 ?_
                    refine sv_iald dL_areKept_361 hb.1 hb.2 (by omega) ?_
                    rw [e479]
                    refine sv_iload dL_areKept_362 rfl ?_
                    refine sv_ishr dL_areKept_364 (bz_bshr w0.1 (by omega) p0 (by omega)) ?_
                    refine sv_iconst dL_areKept_365 ?_
                    refine sv_iand dL_areKept_366 ((bz_and1 (Int.ediv_nonneg w0.1 (by have := lw_2_pos p; omega)) (by have := Int.ediv_le_self (lw_2 p) w0.1; omega)).trans (congrArg Int32.ofInt (lw_bit w0.1))) ?_
                    refine sv_iconst dL_areKept_367 ?_
                    refine sv_icmp_ne (tgt := 410) dL_areKept_368 (by decide) (by rcases lw_b01 (f 479 (8 * k + 3)) p with e | e <;> rw [e] <;> decide) (by decide) (fun h_368 => ?_) (fun h_368 => ?_)
                    · first
                      | (refine sv_wk (p410 f7 (by omega) hJ e478 e479 eA hbl) ?_ rfl
                         rw [lw_c_s p0, h_368]
                         simp [sv_sub]; done)
                      | (refine sv_wk (p410 f7 (by omega) hJ e478 e479 eA hbl) ?_ rfl
                         rw [lw_c_s p0, show lw_b (f 479 (8 * k + 3)) p = 0 by rcases lw_b01 (f 479 (8 * k + 3)) p with e | e; exact e; exact absurd e h_368, Int.add_zero]
                         simp [sv_sub])
                    · have hlt := lw_c_lt (n := 12) p0 (by omega) h_368
                      have hwpp := wp p p0 (by omega) h_368
                      refine sv_aload_n (i := 0) dL_areKept_371 rfl rfl ?_
                      refine sv_iload dL_areKept_372 rfl ?_
                      refine sv_iload dL_areKept_374 rfl ?_
                      refine sv_iconst dL_areKept_376 ?_
                      refine sv_vp0 (As := [_, _, _]) clL_104 dL_areKept_377 ⟨_, rfl, rfl⟩ (by decide) rfl (Nat.le_of_ble_eq_true rfl) (by decide) (by decide) hJ.k.1 hJ.k.2 (J_entry hJ k _ 0 (by unfold sv_in; omega) (by unfold sv_in; omega) (by decide)) ?_
                      refine sv_iload dL_areKept_380 rfl ?_
                      refine sv_icmp_neT (tgt := 405) dL_areKept_382 (by decide) (by rw [hsl, if_neg (by omega), if_neg (by omega), if_pos rfl]; exact hwpp.1) ?_
                      refine sv_aload_n (i := 0) dL_areKept_385 rfl rfl ?_
                      refine sv_iload dL_areKept_386 rfl ?_
                      refine sv_iload dL_areKept_388 rfl ?_
                      refine sv_iconst dL_areKept_390 ?_
                      refine sv_vp0 (As := [_, _, _]) clL_104 dL_areKept_391 ⟨_, rfl, rfl⟩ (by decide) rfl (Nat.le_of_ble_eq_true rfl) (by decide) (by decide) hJ.k.1 hJ.k.2 (J_entry hJ k _ 1 (by unfold sv_in; omega) (by unfold sv_in; omega) (by decide)) ?_
                      refine sv_aload_n (i := 2) dL_areKept_394 rfl rfl ?_
                      refine sv_iload dL_areKept_395 rfl ?_
                      refine sv_iload dL_areKept_397 rfl ?_
                      refine sv_sp0 (As := [_, _, _]) clL_27 dL_areKept_399 rfl (Nat.le_of_ble_eq_true rfl) (by decide) (by decide) (c_L_packed (b := 479) hb (by omega) (by omega) (by rw [e479]; have hw5 := wr (5 + lw_c (f 479 (8 * k + 3)) p.toNat / 4) (by omega) (by omega); rw [show 8 * k + 5 + lw_c (f 479 (8 * k + 3)) p.toNat / 4 = 8 * k + (5 + lw_c (f 479 (8 * k + 3)) p.toNat / 4) by omega]; exact hw5)) ?_
                      rw [e479]
                      refine sv_icmp_eqT (tgt := 407) dL_areKept_402 (by decide) (by rw [hsl, if_neg (by omega), if_neg (by omega), if_neg (by decide)]; exact hwpp.2.symm) ?_
                      refine sv_iinc dL_areKept_407 rfl (by decide) rfl ?_
                      first
                      | (refine sv_wk (p410 f7 (by omega) hJ e478 e479 eA hbl) ?_ rfl
                         rw [lw_c_s p0, h_368]
                         simp [sv_sub]; done)
                      | (refine sv_wk (p410 f7 (by omega) hJ e478 e479 eA hbl) ?_ rfl
                         rw [lw_c_s p0, show lw_b (f 479 (8 * k + 3)) p = 0 by rcases lw_b01 (f 479 (8 * k + 3)) p with e | e; exact e; exact absurd e h_368, Int.add_zero]
                         simp [sv_sub])
              exact sv_cast (lp6 13 0 f7 (by omega) ⟨by decide, by decide⟩ hJ e478 e479 eA hbl) rfl rfl rfl rfl rfl rfl
            have p209 : ∀ vA : Int → Int, ((1 : Int) = 1 → vA 12 = m (29 * k + 1) ∧ ∀ j, 0 ≤ j → j < 6 + 2 * m (29 * k + 1) → vA j = sp_V m k j) → ∀ f7 : sv_F, sv_J S2 r f7 m → f7 478 = f 478 → f7 479 = f 479 → f7 S.1 = vA → (∀ x, S2.1 ≤ x → f7 x = f x) → sv_T X (sv_rm 6 2 24) ML_areKept (sv_Zm X 2 24 (fun rv' S' f' r' g' => ∃ a, rv' = some (sv_i a) ∧ a = 1 ∧ sv_LI S' r' f')) 2 24 209 [some (sv_r 0), some (sv_r 478), some (sv_r 479), some (sv_r S.1), some (sv_r (S.1 + 1)), some (sv_i k), some (sv_i (sp_cnt (fun s => if m (29 * s + 3) = -1 then 1 else 0) k.toNat)), some (sv_i (sp_cnt (fun s => if sp_R m (m (29 * s)) = -1 then 0 else 1) k.toNat)), some (sv_i (sp_cnt (sp_we m) k.toNat)), some (sv_i (sp_mx (fun s => sp_lk m (m (29 * s))) k.toNat)), some (sv_i k), some (sv_i 1), some (sv_i (m (29 * k + 4))), some (sv_i (sp_we m k)), some (sv_i (sp_bo m k)), none, none, none] [] S2 (f7) r g := by
              intro vA hV f7 hJ e478 e479 eA hbl
              refine sv_aload_n (i := 0) dL_areKept_209 rfl rfl ?_
              refine sv_iload dL_areKept_210 rfl ?_
              refine sv_iconst dL_areKept_212 ?_
              refine sv_vi0 (As := [_, _]) clL_101 dL_areKept_213 ⟨_, rfl, rfl⟩ (by decide) rfl (Nat.le_of_ble_eq_true rfl) (by decide) (by decide) hJ.k.1 hJ.k.2 (J_kept hJ k 0 (by unfold sv_in; omega) (by decide)) (fun a21 f21 hf21 => ?_)
              obtain ⟨ha21, hJ, hx21⟩ := hf21
              have e478 : f21 478 = f 478 := (hx21 478 (by omega)).trans e478
              have e479 : f21 479 = f 479 := (hx21 479 (by omega)).trans e479
              have eA : f21 S.1 = vA := (hx21 S.1 (by omega)).trans eA
              have hbl : ∀ x, S2.1 ≤ x → f21 x = f x := fun x h => (hx21 x (by omega)).trans (hbl x h)
              refine sv_aload_n (i := 2) dL_areKept_216 rfl rfl ?_
              refine sv_bipush dL_areKept_217 (by decide) ?_
              refine sv_iload dL_areKept_219 rfl ?_
              refine sv_imul dL_areKept_221 ?_
              refine sv_iald dL_areKept_222 hb.1 hb.2 (by omega) ?_
              rw [e479, q0]
              refine sv_icmp_neT (tgt := 338) dL_areKept_223 (by decide) (by rw [ha21, lw_kept hq hk.1 hk1 (by decide)]; rfl) ?_
              refine sv_aload_n (i := 0) dL_areKept_226 rfl rfl ?_
              refine sv_iload dL_areKept_227 rfl ?_
              refine sv_iconst dL_areKept_229 ?_
              refine sv_vi0 (As := [_, _]) clL_101 dL_areKept_230 ⟨_, rfl, rfl⟩ (by decide) rfl (Nat.le_of_ble_eq_true rfl) (by decide) (by decide) hJ.k.1 hJ.k.2 (J_kept hJ k 1 (by unfold sv_in; omega) (by decide)) (fun a22 f22 hf22 => ?_)
              obtain ⟨ha22, hJ, hx22⟩ := hf22
              have e478 : f22 478 = f 478 := (hx22 478 (by omega)).trans e478
              have e479 : f22 479 = f 479 := (hx22 479 (by omega)).trans e479
              have eA : f22 S.1 = vA := (hx22 S.1 (by omega)).trans eA
              have hbl : ∀ x, S2.1 ≤ x → f22 x = f x := fun x h => (hx22 x (by omega)).trans (hbl x h)
              refine sv_aload_n (i := 2) dL_areKept_233 rfl rfl ?_
              refine sv_bipush dL_areKept_234 (by decide) ?_
              refine sv_iload dL_areKept_236 rfl ?_
              refine sv_imul dL_areKept_238 ?_
              refine sv_iconst dL_areKept_239 ?_
              refine sv_iadd dL_areKept_240 ?_
              refine sv_iald dL_areKept_241 hb.1 hb.2 (by omega) ?_
              rw [e479, q1]
              refine sv_icmp_neT (tgt := 338) dL_areKept_242 (by decide) (by rw [ha22, lw_kept hq hk.1 hk1 (by decide)]; rfl) ?_
              refine sv_aload_n (i := 0) dL_areKept_245 rfl rfl ?_
              refine sv_iload dL_areKept_246 rfl ?_
              refine sv_iconst dL_areKept_248 ?_
              refine sv_vi0 (As := [_, _]) clL_101 dL_areKept_249 ⟨_, rfl, rfl⟩ (by decide) rfl (Nat.le_of_ble_eq_true rfl) (by decide) (by decide) hJ.k.1 hJ.k.2 (J_kept hJ k 2 (by unfold sv_in; omega) (by decide)) (fun a23 f23 hf23 => ?_)
              obtain ⟨ha23, hJ, hx23⟩ := hf23
              have e478 : f23 478 = f 478 := (hx23 478 (by omega)).trans e478
              have e479 : f23 479 = f 479 := (hx23 479 (by omega)).trans e479
              have eA : f23 S.1 = vA := (hx23 S.1 (by omega)).trans eA
              have hbl : ∀ x, S2.1 ≤ x → f23 x = f x := fun x h => (hx23 x (by omega)).trans (hbl x h)
              refine sv_aload_n (i := 2) dL_areKept_252 rfl rfl ?_
              refine sv_bipush dL_areKept_253 (by decide) ?_
              refine sv_iload dL_areKept_255 rfl ?_
              refine sv_imul dL_areKept_257 ?_
              refine sv_iconst dL_areKept_258 ?_
              refine sv_iadd dL_areKept_259 ?_
              refine sv_iald dL_areKept_260 hb.1 hb.2 (by omega) ?_
              rw [e479, q2]
              refine sv_icmp_neT (tgt := 338) dL_areKept_261 (by decide) (by rw [ha23, lw_kept hq hk.1 hk1 (by decide)]; rfl) ?_
              refine sv_aload_n (i := 0) dL_areKept_264 rfl rfl ?_
              refine sv_iload dL_areKept_265 rfl ?_
              refine sv_iconst dL_areKept_267 ?_
              refine sv_vi0 (As := [_, _]) clL_101 dL_areKept_268 ⟨_, rfl, rfl⟩ (by decide) rfl (Nat.le_of_ble_eq_true rfl) (by decide) (by decide) hJ.k.1 hJ.k.2 (J_kept hJ k 3 (by unfold sv_in; omega) (by decide)) (fun a24 f24 hf24 => ?_)
              obtain ⟨ha24, hJ, hx24⟩ := hf24
              have e478 : f24 478 = f 478 := (hx24 478 (by omega)).trans e478
              have e479 : f24 479 = f 479 := (hx24 479 (by omega)).trans e479
              have eA : f24 S.1 = vA := (hx24 S.1 (by omega)).trans eA
              have hbl : ∀ x, S2.1 ≤ x → f24 x = f x := fun x h => (hx24 x (by omega)).trans (hbl x h)
              refine sv_iload dL_areKept_271 rfl ?_
              refine sv_icmp_neT (tgt := 338) dL_areKept_273 (by decide) (by rw [ha24, lw_kept hq hk.1 hk1 (by decide)]; rfl) ?_
              refine sv_aload_n (i := 0) dL_areKept_276 rfl rfl ?_
              refine sv_iload dL_areKept_277 rfl ?_
              refine sv_iconst dL_areKept_279 ?_
              refine sv_vi0 (As := [_, _]) clL_101 dL_areKept_280 ⟨_, rfl, rfl⟩ (by decide) rfl (Nat.le_of_ble_eq_true rfl) (by decide) (by decide) hJ.k.1 hJ.k.2 (J_kept hJ k 4 (by unfold sv_in; omega) (by decide)) (fun a25 f25 hf25 => ?_)
              obtain ⟨ha25, hJ, hx25⟩ := hf25
              have e478 : f25 478 = f 478 := (hx25 478 (by omega)).trans e478
              have e479 : f25 479 = f 479 := (hx25 479 (by omega)).trans e479
              have eA : f25 S.1 = vA := (hx25 S.1 (by omega)).trans eA
              have hbl : ∀ x, S2.1 ≤ x → f25 x = f x := fun x h => (hx25 x (by omega)).trans (hbl x h)
              refine sv_aload_n (i := 2) dL_areKept_283 rfl rfl ?_
              refine sv_iload dL_areKept_284 rfl ?_
              refine sv_sp0 (As := [_, _]) clL_15 dL_areKept_286 rfl (Nat.le_of_ble_eq_true rfl) (by decide) (by decide) (c_L_links (b := 479) hb hw (by rw [e479]; exact hq) ⟨hk.1, hk1⟩) ?_
              refine sv_icmp_neT (tgt := 338) dL_areKept_289 (by decide) (by rw [ha25, lw_kept hq hk.1 hk1 (by decide)]; show sp_lk m (m (29 * k)) = _; rw [hnum]) ?_
              refine sv_aload_n (i := 0) dL_areKept_292 rfl rfl ?_
              refine sv_iload dL_areKept_293 rfl ?_
              refine sv_iconst dL_areKept_295 ?_
              refine sv_vi0 (As := [_, _]) clL_101 dL_areKept_296 ⟨_, rfl, rfl⟩ (by decide) rfl (Nat.le_of_ble_eq_true rfl) (by decide) (by decide) hJ.k.1 hJ.k.2 (J_kept hJ k 5 (by unfold sv_in; omega) (by decide)) (fun a26 f26 hf26 => ?_)
              obtain ⟨ha26, hJ, hx26⟩ := hf26
              have e478 : f26 478 = f 478 := (hx26 478 (by omega)).trans e478
              have e479 : f26 479 = f 479 := (hx26 479 (by omega)).trans e479
              have eA : f26 S.1 = vA := (hx26 S.1 (by omega)).trans eA
              have hbl : ∀ x, S2.1 ≤ x → f26 x = f x := fun x h => (hx26 x (by omega)).trans (hbl x h)
              refine sv_iload dL_areKept_299 rfl ?_
              refine sv_if_eq (tgt := 308) dL_areKept_301 (by decide) (by decide) (fun h_301 => absurd h_301 (by decide)) (fun h_301 => ?_)
              refine sv_iconst dL_areKept_304 ?_
              refine sv_goto (tgt := 309) dL_areKept_305 (by decide) ?_
              refine sv_icmp_neT (tgt := 338) dL_areKept_309 (by decide) (by rw [ha26, lw_kept hq hk.1 hk1 (by decide)]; show (if sp_R m (m (29 * k)) = -1 then (1 : Int) else 0) = _; rw [hnum, if_pos hR]) ?_
              refine sv_aload_n (i := 0) dL_areKept_312 rfl rfl ?_
              refine sv_iload dL_areKept_313 rfl ?_
              refine sv_bipush dL_areKept_315 (by decide) ?_
              refine sv_vi0 (As := [_, _]) clL_101 dL_areKept_317 ⟨_, rfl, rfl⟩ (by decide) rfl (Nat.le_of_ble_eq_true rfl) (by decide) (by decide) hJ.k.1 hJ.k.2 (J_kept hJ k 6 (by unfold sv_in; omega) (by decide)) (fun a27 f27 hf27 => ?_)
              obtain ⟨ha27, hJ, hx27⟩ := hf27
              have e478 : f27 478 = f 478 := (hx27 478 (by omega)).trans e478
              have e479 : f27 479 = f 479 := (hx27 479 (by omega)).trans e479
              have eA : f27 S.1 = vA := (hx27 S.1 (by omega)).trans eA
              have hbl : ∀ x, S2.1 ≤ x → f27 x = f x := fun x h => (hx27 x (by omega)).trans (hbl x h)
              refine sv_iload dL_areKept_320 rfl ?_
              refine sv_icmp_neT (tgt := 338) dL_areKept_322 (by decide) (by rw [ha27, lw_kept hq hk.1 hk1 (by decide)]; rfl) ?_
              refine sv_aload_n (i := 0) dL_areKept_325 rfl rfl ?_
              refine sv_iload dL_areKept_326 rfl ?_
              refine sv_bipush dL_areKept_328 (by decide) ?_
              refine sv_vi0 (As := [_, _]) clL_101 dL_areKept_330 ⟨_, rfl, rfl⟩ (by decide) rfl (Nat.le_of_ble_eq_true rfl) (by decide) (by decide) hJ.k.1 hJ.k.2 (J_kept hJ k 7 (by unfold sv_in; omega) (by decide)) (fun a28 f28 hf28 => ?_)
              obtain ⟨ha28, hJ, hx28⟩ := hf28
              have e478 : f28 478 = f 478 := (hx28 478 (by omega)).trans e478
              have e479 : f28 479 = f 479 := (hx28 479 (by omega)).trans e479
              have eA : f28 S.1 = vA := (hx28 S.1 (by omega)).trans eA
              have hbl : ∀ x, S2.1 ≤ x → f28 x = f x := fun x h => (hx28 x (by omega)).trans (hbl x h)
              refine sv_iload dL_areKept_333 rfl ?_
              refine sv_icmp_eqT (tgt := 340) dL_areKept_335 (by decide) (by rw [ha28, lw_kept hq hk.1 hk1 (by decide)]; show sp_bo m (m (29 * k)) = _; rw [hnum]) ?_
              refine sv_iconst dL_areKept_340 ?_
              refine sv_istore dL_areKept_341 (by decide) rfl ?_
              refine sv_iconst dL_areKept_343 ?_
              refine sv_istore dL_areKept_344 (by decide) rfl ?_
              exact l346 vA hV _ hJ e478 e479 eA hbl
            have p154 : ∀ vA : Int → Int, ((1 : Int) = 1 → vA 12 = m (29 * k + 1) ∧ ∀ j, 0 ≤ j → j < 6 + 2 * m (29 * k + 1) → vA j = sp_V m k j) → ∀ f7 : sv_F, sv_J S2 r f7 m → f7 478 = f 478 → f7 479 = f 479 → f7 S.1 = vA → (∀ x, S2.1 ≤ x → f7 x = f x) → sv_T X (sv_rm 6 2 24) ML_areKept (sv_Zm X 2 24 (fun rv' S' f' r' g' => ∃ a, rv' = some (sv_i a) ∧ a = 1 ∧ sv_LI S' r' f')) 2 24 154 [some (sv_r 0), some (sv_r 478), some (sv_r 479), some (sv_r S.1), some (sv_r (S.1 + 1)), some (sv_i k), some (sv_i (sp_cnt (fun s => if m (29 * s + 3) = -1 then 1 else 0) k.toNat)), some (sv_i (sp_cnt (fun s => if sp_R m (m (29 * s)) = -1 then 0 else 1) k.toNat)), some (sv_i (sp_cnt (sp_we m) k.toNat)), some (sv_i (sp_mx (fun s => sp_lk m (m (29 * s))) k.toNat)), some (sv_i k), some (sv_i 1), some (sv_i (m (29 * k + 4))), some (sv_i (sp_we m k)), none, none, none, none] [] S2 (f7) r g := by
              intro vA hV f7 hJ e478 e479 eA hbl
              have lp5 : ∀ (k5 : Nat) (j : Int), m 580 - j < (k5 : Int) → (0 ≤ j ∧ j ≤ m 580) → sv_T X (sv_rm 6 2 24) ML_areKept (sv_Zm X 2 24 (fun rv' S' f' r' g' => ∃ a, rv' = some (sv_i a) ∧ a = 1 ∧ sv_LI S' r' f')) 2 24 160 [some (sv_r 0), some (sv_r 478), some (sv_r 479), some (sv_r S.1), some (sv_r (S.1 + 1)), some (sv_i k), some (sv_i (sp_cnt (fun s => if m (29 * s + 3) = -1 then 1 else 0) k.toNat)), some (sv_i (sp_cnt (fun s => if sp_R m (m (29 * s)) = -1 then 0 else 1) k.toNat)), some (sv_i (sp_cnt (sp_we m) k.toNat)), some (sv_i (sp_mx (fun s => sp_lk m (m (29 * s))) k.toNat)), some (sv_i k), some (sv_i 1), some (sv_i (m (29 * k + 4))), some (sv_i (sp_we m k)), some (sv_i (sp_cnt (fun s => if m (29 * s + 3) = k then 1 else 0) j.toNat)), some (sv_i j), none, none] [] S2 (f7) r g := by
                intro k5
                induction k5 with
                | zero =>
                  intro j hk5 jj
                  exact absurd hk5 (by omega)
                | succ k5 ih5 =>
                  intro j hk5 jj
                  obtain ⟨j0, j1⟩ := jj
                  refine sv_iload dL_areKept_160 rfl ?_
                  refine sv_aload_n (i := 1) dL_areKept_162 rfl rfl ?_
                  refine sv_bipush dL_areKept_163 (by decide) ?_
                  refine sv_iald dL_areKept_165 hG.1 hG.2 (by decide) ?_
                  rw [e478, g16]
                  refine sv_icmp_ge (tgt := 209) dL_areKept_166 (by decide) (by unfold sv_in; omega) (by unfold sv_in; omega) (fun h_166 => ?_) (fun h_166 => ?_)
                  · obtain rfl : j = m 580 := by omega
                    exact sv_wk (p209 vA hV f7 hJ e478 e479 eA hbl) (by simp [sv_sub, sp_bo]) rfl
                  · obtain ⟨⟨qj0, -, qj2, -⟩, -⟩ := hq.row (s := j) j0 (by omega)
                    have hjf := hw.frm (s := j) j0 (by omega)
                    have hjb := hq.base hw (k := j) j0 (by omega)
                    refine sv_iload dL_areKept_169 rfl ?_
                    refine sv_aload_n (i := 2) dL_areKept_171 rfl rfl ?_
                    refine sv_bipush dL_areKept_172 (by decide) ?_
                    refine sv_iload dL_areKept_174 rfl ?_
                    refine sv_imul dL_areKept_176 ?_
                    refine sv_iald dL_areKept_177 hb.1 hb.2 (by omega) ?_
                    rw [e479, qj0]
                    refine sv_if_le (tgt := 199) dL_areKept_178 (by decide) (by unfold sv_in; omega) (fun h_178 => absurd h_178 (by omega)) (fun h_178 => ?_)
                    refine sv_aload_n (i := 2) dL_areKept_181 rfl rfl ?_
                    refine sv_bipush dL_areKept_182 (by decide) ?_
                    refine sv_iload dL_areKept_184 rfl ?_
                    refine sv_imul dL_areKept_186 ?_
                    refine sv_iconst dL_areKept_187 ?_
                    refine sv_iadd dL_areKept_188 ?_
                    refine sv_iald dL_areKept_189 hb.1 hb.2 (by omega) ?_
                    rw [e479, qj2]
                    refine sv_iload dL_areKept_190 rfl ?_
                    refine sv_icmp_ne (tgt := 199) dL_areKept_192 (by decide) (by unfold sv_in; omega) (by unfold sv_in; omega) (fun h_192 => ?_) (fun h_192 => ?_)
                    · refine sv_iconst dL_areKept_199 ?_
                      refine sv_iadd dL_areKept_200 ?_
                      first
                      | rw [show sp_cnt (fun s => if m (29 * s + 3) = k then 1 else 0) j.toNat + 1 = sp_cnt (fun s => if m (29 * s + 3) = k then 1 else 0) (j + 1).toNat by rw [sp_cnt_s j0]; (try dsimp only); rw [if_pos (by assumption)]]
                      | rw [show sp_cnt (fun s => if m (29 * s + 3) = k then 1 else 0) j.toNat + 0 = sp_cnt (fun s => if m (29 * s + 3) = k then 1 else 0) (j + 1).toNat by rw [sp_cnt_s j0]; (try dsimp only); rw [if_neg (by assumption)]]
                      refine sv_istore dL_areKept_201 (by decide) rfl ?_
                      refine sv_iinc dL_areKept_203 rfl (by decide) rfl ?_
                      refine sv_goto (tgt := 160) dL_areKept_206 (by decide) ?_
                      refine sv_cast (ih5 (j + 1) (by omega) (by omega)) rfl rfl rfl rfl rfl rfl
                    · refine sv_iconst dL_areKept_195 ?_
                      refine sv_goto (tgt := 200) dL_areKept_196 (by decide) ?_
                      refine sv_iadd dL_areKept_200 ?_
                      first
                      | rw [show sp_cnt (fun s => if m (29 * s + 3) = k then 1 else 0) j.toNat + 1 = sp_cnt (fun s => if m (29 * s + 3) = k then 1 else 0) (j + 1).toNat by rw [sp_cnt_s j0]; (try dsimp only); rw [if_pos (by assumption)]]
                      | rw [show sp_cnt (fun s => if m (29 * s + 3) = k then 1 else 0) j.toNat + 0 = sp_cnt (fun s => if m (29 * s + 3) = k then 1 else 0) (j + 1).toNat by rw [sp_cnt_s j0]; (try dsimp only); rw [if_neg (by assumption)]]
                      refine sv_istore dL_areKept_201 (by decide) rfl ?_
                      refine sv_iinc dL_areKept_203 rfl (by decide) rfl ?_
                      refine sv_goto (tgt := 160) dL_areKept_206 (by decide) ?_
                      refine sv_cast (ih5 (j + 1) (by omega) (by omega)) rfl rfl rfl rfl rfl rfl
              refine sv_iconst dL_areKept_154 ?_
              refine sv_istore dL_areKept_155 (by decide) rfl ?_
              refine sv_iconst dL_areKept_157 ?_
              refine sv_istore dL_areKept_158 (by decide) rfl ?_
              exact sv_cast (lp5 (m 580 + 1).toNat 0 (by omega) (by omega)) rfl rfl rfl rfl rfl rfl
            exact fun vA hV f7 hJ e478 e479 eA hbl => by
              refine sv_aload_n (i := 2) dL_areKept_117 rfl rfl ?_
              refine sv_bipush dL_areKept_118 (by decide) ?_
              refine sv_iload dL_areKept_120 rfl ?_
              refine sv_imul dL_areKept_122 ?_
              refine sv_iconst dL_areKept_123 ?_
              refine sv_iadd dL_areKept_124 ?_
              refine sv_iald dL_areKept_125 hb.1 hb.2 (by omega) ?_
              rw [e479, q4]
              refine sv_istore dL_areKept_126 (by decide) rfl ?_
              refine sv_aload_n (i := 2) dL_areKept_128 rfl rfl ?_
              refine sv_bipush dL_areKept_129 (by decide) ?_
              refine sv_iload dL_areKept_131 rfl ?_
              refine sv_imul dL_areKept_133 ?_
              refine sv_iconst dL_areKept_134 ?_
              refine sv_iadd dL_areKept_135 ?_
              refine sv_iald dL_areKept_136 hb.1 hb.2 (by omega) ?_
              rw [e479, q2]
              refine sv_iconst dL_areKept_137 ?_
              refine sv_icmp_ne (tgt := 146) dL_areKept_138 (by decide) (by unfold sv_in; omega) (by decide) (fun h_138 => ?_) (fun h_138 => ?_)
              · refine sv_iconst dL_areKept_146 ?_
                refine sv_iconst dL_areKept_147 ?_
                refine sv_iload dL_areKept_148 rfl ?_
                refine sv_imul dL_areKept_150 ?_
                refine sv_iadd dL_areKept_151 ?_
                refine sv_istore dL_areKept_152 (by decide) rfl ?_
                refine sv_wk (p154 vA hV f7 hJ e478 e479 eA hbl) ?_ rfl
                unfold sp_we
                first
                | (rw [if_pos (by assumption)]; simp [sv_sub]; done)
                | (rw [if_neg (by assumption)]; simp [sv_sub])
              · refine sv_iload dL_areKept_141 rfl ?_
                refine sv_goto (tgt := 152) dL_areKept_143 (by decide) ?_
                refine sv_istore dL_areKept_152 (by decide) rfl ?_
                refine sv_wk (p154 vA hV f7 hJ e478 e479 eA hbl) ?_ rfl
                unfold sp_we
                first
                | (rw [if_pos (by assumption)]; simp [sv_sub]; done)
                | (rw [if_neg (by assumption)]; simp [sv_sub])
          have q117_0 : sp_R m k ≠ -1 → ∀ vA : Int → Int, (0 : Int) = 0 → ∀ f7 : sv_F, sv_J S2 r f7 m → f7 478 = f 478 → f7 479 = f 479 → f7 S.1 = vA → (∀ x, S2.1 ≤ x → f7 x = f x) → sv_T X (sv_rm 6 2 24) ML_areKept (sv_Zm X 2 24 (fun rv' S' f' r' g' => ∃ a, rv' = some (sv_i a) ∧ a = 1 ∧ sv_LI S' r' f')) 2 24 117 [some (sv_r 0), some (sv_r 478), some (sv_r 479), some (sv_r S.1), some (sv_r (S.1 + 1)), some (sv_i k), some (sv_i (sp_cnt (fun s => if m (29 * s + 3) = -1 then 1 else 0) k.toNat)), some (sv_i (sp_cnt (fun s => if sp_R m (m (29 * s)) = -1 then 0 else 1) k.toNat)), some (sv_i (sp_cnt (sp_we m) k.toNat)), some (sv_i (sp_mx (fun s => sp_lk m (m (29 * s))) k.toNat)), some (sv_i k), some (sv_i 0), none, none, none, none, none, none] [] S2 (f7) r g := by
            intro hR
            have p578 : ∀ (f9 : sv_F) (vA : Int → Int), sv_J S2 r f9 m → f9 478 = f 478 → f9 479 = f 479 → f9 S.1 = vA → (∀ x, S2.1 ≤ x → f9 x = f x) → sv_T X (sv_rm 6 2 24) ML_areKept (sv_Zm X 2 24 (fun rv' S' f' r' g' => ∃ a, rv' = some (sv_i a) ∧ a = 1 ∧ sv_LI S' r' f')) 2 24 578 [some (sv_r 0), some (sv_r 478), some (sv_r 479), some (sv_r S.1), some (sv_r (S.1 + 1)), some (sv_i k), some (sv_i (sp_cnt (fun s => if m (29 * s + 3) = -1 then 1 else 0) k.toNat)), some (sv_i (sp_cnt (fun s => if sp_R m (m (29 * s)) = -1 then 0 else 1) k.toNat)), some (sv_i (sp_cnt (sp_we m) k.toNat)), some (sv_i (sp_mx (fun s => sp_lk m (m (29 * s))) k.toNat)), some (sv_i k), some (sv_i 0), some (sv_i (m (29 * k + 4))), some (sv_i (sp_we m k)), none, none, none, none] [] S2 (f9) r g := by
              intro f9 vA hJ e478 e479 eA hbl
              have hlkb := sp_lk_bd hw (n := k) hk.1
              refine sv_iinc dL_areKept_578 rfl (by decide) rfl ?_
              refine sv_iload dL_areKept_581 rfl ?_
              refine sv_aload_n (i := 2) dL_areKept_583 rfl rfl ?_
              refine sv_bipush dL_areKept_584 (by decide) ?_
              refine sv_iload dL_areKept_586 rfl ?_
              refine sv_imul dL_areKept_588 ?_
              refine sv_iconst dL_areKept_589 ?_
              refine sv_iadd dL_areKept_590 ?_
              refine sv_iald dL_areKept_591 hb.1 hb.2 (by omega) ?_
              rw [e479, q2]
              refine sv_iconst dL_areKept_592 ?_
              refine sv_icmp_ne (tgt := 600) dL_areKept_593 (by decide) (by unfold sv_in; omega) (by decide) (fun h_593 => ?_) (fun h_593 => ?_)
              · refine sv_iconst dL_areKept_600 ?_
                refine sv_iadd dL_areKept_601 ?_
                first
                | rw [show sp_cnt (fun s => if m (29 * s + 3) = -1 then 1 else 0) k.toNat + 1 = sp_cnt (fun s => if m (29 * s + 3) = -1 then 1 else 0) (k + 1).toNat by rw [sp_cnt_s hk.1]; (try dsimp only); rw [if_pos (by assumption)]]
                | rw [show sp_cnt (fun s => if m (29 * s + 3) = -1 then 1 else 0) k.toNat + 0 = sp_cnt (fun s => if m (29 * s + 3) = -1 then 1 else 0) (k + 1).toNat by rw [sp_cnt_s hk.1]; (try dsimp only); rw [if_neg (by assumption)]]
                refine sv_istore dL_areKept_602 (by decide) rfl ?_
                refine sv_iload dL_areKept_604 rfl ?_
                refine sv_iload dL_areKept_606 rfl ?_
                refine sv_if_eq (tgt := 615) dL_areKept_608 (by decide) (by decide) (fun h_608 => ?_) (fun h_608 => absurd h_608 (by decide))
                refine sv_iconst dL_areKept_615 ?_
                refine sv_iadd dL_areKept_616 ?_
                rw [show sp_cnt (fun s => if sp_R m (m (29 * s)) = -1 then 0 else 1) k.toNat + 1 = sp_cnt (fun s => if sp_R m (m (29 * s)) = -1 then 0 else 1) (k + 1).toNat by rw [sp_cnt_s hk.1]; (try dsimp only); rw [hnum, if_neg hR]]
                refine sv_istore dL_areKept_617 (by decide) rfl ?_
                refine sv_iload dL_areKept_619 rfl ?_
                refine sv_iload dL_areKept_621 rfl ?_
                refine sv_iadd dL_areKept_623 ?_
                rw [show sp_cnt (sp_we m) k.toNat + sp_we m k = sp_cnt (sp_we m) (k + 1).toNat by rw [sp_cnt_s hk.1]]
                refine sv_istore dL_areKept_624 (by decide) rfl ?_
                refine sv_aload_n (i := 2) dL_areKept_626 rfl rfl ?_
                refine sv_iload dL_areKept_627 rfl ?_
                refine sv_sp0 (As := [_, _]) clL_15 dL_areKept_629 rfl (Nat.le_of_ble_eq_true rfl) (by decide) (by decide) (c_L_links (b := 479) hb hw (by rw [e479]; exact hq) ⟨hk.1, hk1⟩) ?_
                refine sv_iload dL_areKept_632 rfl ?_
                refine sv_icmp_le (tgt := 646) dL_areKept_634 (by decide) (by unfold sv_in; omega) (by have := sp_mx_in (q := (fun s => sp_lk m (m (29 * s)))) (b := 30) (by decide) k.toNat (fun i a b => by (try dsimp only); rw [hq.num (s := i) a (by omega)]; have := sp_lk_bd hw (n := i) a; omega); unfold sv_in; omega) (fun h_634 => ?_) (fun h_634 => ?_)
                · refine sv_iload dL_areKept_646 rfl ?_
                  first
                  | rw [show sp_lk m k = sp_mx (fun s => sp_lk m (m (29 * s))) (k + 1).toNat by rw [sp_mx_s hk.1]; (try dsimp only); rw [hnum]; omega]
                  | rw [show sp_mx (fun s => sp_lk m (m (29 * s))) k.toNat = sp_mx (fun s => sp_lk m (m (29 * s))) (k + 1).toNat by rw [sp_mx_s hk.1]; (try dsimp only); rw [hnum]; omega]
                  refine sv_istore dL_areKept_648 (by decide) rfl ?_
                  refine sv_iinc dL_areKept_650 rfl (by decide) rfl ?_
                  refine sv_goto (tgt := 29) dL_areKept_653 (by decide) ?_
                  refine sv_wk (ih (k + 1) _ (by omega) ⟨by omega, by omega⟩ hJ e478 e479 hbl) (by simp [sv_sub]) rfl
                · refine sv_aload_n (i := 2) dL_areKept_637 rfl rfl ?_
                  refine sv_iload dL_areKept_638 rfl ?_
                  refine sv_sp0 (As := [_, _]) clL_15 dL_areKept_640 rfl (Nat.le_of_ble_eq_true rfl) (by decide) (by decide) (c_L_links (b := 479) hb hw (by rw [e479]; exact hq) ⟨hk.1, hk1⟩) ?_
                  refine sv_goto (tgt := 648) dL_areKept_643 (by decide) ?_
                  first
                  | rw [show sp_lk m k = sp_mx (fun s => sp_lk m (m (29 * s))) (k + 1).toNat by rw [sp_mx_s hk.1]; (try dsimp only); rw [hnum]; omega]
                  | rw [show sp_mx (fun s => sp_lk m (m (29 * s))) k.toNat = sp_mx (fun s => sp_lk m (m (29 * s))) (k + 1).toNat by rw [sp_mx_s hk.1]; (try dsimp only); rw [hnum]; omega]
                  refine sv_istore dL_areKept_648 (by decide) rfl ?_
                  refine sv_iinc dL_areKept_650 rfl (by decide) rfl ?_
                  refine sv_goto (tgt := 29) dL_areKept_653 (by decide) ?_
                  refine sv_wk (ih (k + 1) _ (by omega) ⟨by omega, by omega⟩ hJ e478 e479 hbl) (by simp [sv_sub]) rfl
              · refine sv_iconst dL_areKept_596 ?_
                refine sv_goto (tgt := 601) dL_areKept_597 (by decide) ?_
                refine sv_iadd dL_areKept_601 ?_
                first
                | rw [show sp_cnt (fun s => if m (29 * s + 3) = -1 then 1 else 0) k.toNat + 1 = sp_cnt (fun s => if m (29 * s + 3) = -1 then 1 else 0) (k + 1).toNat by rw [sp_cnt_s hk.1]; (try dsimp only); rw [if_pos (by assumption)]]
                | rw [show sp_cnt (fun s => if m (29 * s + 3) = -1 then 1 else 0) k.toNat + 0 = sp_cnt (fun s => if m (29 * s + 3) = -1 then 1 else 0) (k + 1).toNat by rw [sp_cnt_s hk.1]; (try dsimp only); rw [if_neg (by assumption)]]
                refine sv_istore dL_areKept_602 (by decide) rfl ?_
                refine sv_iload dL_areKept_604 rfl ?_
                refine sv_iload dL_areKept_606 rfl ?_
                refine sv_if_eq (tgt := 615) dL_areKept_608 (by decide) (by decide) (fun h_608 => ?_) (fun h_608 => absurd h_608 (by decide))
                refine sv_iconst dL_areKept_615 ?_
                refine sv_iadd dL_areKept_616 ?_
                rw [show sp_cnt (fun s => if sp_R m (m (29 * s)) = -1 then 0 else 1) k.toNat + 1 = sp_cnt (fun s => if sp_R m (m (29 * s)) = -1 then 0 else 1) (k + 1).toNat by rw [sp_cnt_s hk.1]; (try dsimp only); rw [hnum, if_neg hR]]
                refine sv_istore dL_areKept_617 (by decide) rfl ?_
                refine sv_iload dL_areKept_619 rfl ?_
                refine sv_iload dL_areKept_621 rfl ?_
                refine sv_iadd dL_areKept_623 ?_
                rw [show sp_cnt (sp_we m) k.toNat + sp_we m k = sp_cnt (sp_we m) (k + 1).toNat by rw [sp_cnt_s hk.1]]
                refine sv_istore dL_areKept_624 (by decide) rfl ?_
                refine sv_aload_n (i := 2) dL_areKept_626 rfl rfl ?_
                refine sv_iload dL_areKept_627 rfl ?_
                refine sv_sp0 (As := [_, _]) clL_15 dL_areKept_629 rfl (Nat.le_of_ble_eq_true rfl) (by decide) (by decide) (c_L_links (b := 479) hb hw (by rw [e479]; exact hq) ⟨hk.1, hk1⟩) ?_
                refine sv_iload dL_areKept_632 rfl ?_
                refine sv_icmp_le (tgt := 646) dL_areKept_634 (by decide) (by unfold sv_in; omega) (by have := sp_mx_in (q := (fun s => sp_lk m (m (29 * s)))) (b := 30) (by decide) k.toNat (fun i a b => by (try dsimp only); rw [hq.num (s := i) a (by omega)]; have := sp_lk_bd hw (n := i) a; omega); unfold sv_in; omega) (fun h_634 => ?_) (fun h_634 => ?_)
                · refine sv_iload dL_areKept_646 rfl ?_
                  first
                  | rw [show sp_lk m k = sp_mx (fun s => sp_lk m (m (29 * s))) (k + 1).toNat by rw [sp_mx_s hk.1]; (try dsimp only); rw [hnum]; omega]
                  | rw [show sp_mx (fun s => sp_lk m (m (29 * s))) k.toNat = sp_mx (fun s => sp_lk m (m (29 * s))) (k + 1).toNat by rw [sp_mx_s hk.1]; (try dsimp only); rw [hnum]; omega]
                  refine sv_istore dL_areKept_648 (by decide) rfl ?_
                  refine sv_iinc dL_areKept_650 rfl (by decide) rfl ?_
                  refine sv_goto (tgt := 29) dL_areKept_653 (by decide) ?_
                  refine sv_wk (ih (k + 1) _ (by omega) ⟨by omega, by omega⟩ hJ e478 e479 hbl) (by simp [sv_sub]) rfl
                · refine sv_aload_n (i := 2) dL_areKept_637 rfl rfl ?_
                  refine sv_iload dL_areKept_638 rfl ?_
                  refine sv_sp0 (As := [_, _]) clL_15 dL_areKept_640 rfl (Nat.le_of_ble_eq_true rfl) (by decide) (by decide) (c_L_links (b := 479) hb hw (by rw [e479]; exact hq) ⟨hk.1, hk1⟩) ?_
                  refine sv_goto (tgt := 648) dL_areKept_643 (by decide) ?_
                  first
                  | rw [show sp_lk m k = sp_mx (fun s => sp_lk m (m (29 * s))) (k + 1).toNat by rw [sp_mx_s hk.1]; (try dsimp only); rw [hnum]; omega]
                  | rw [show sp_mx (fun s => sp_lk m (m (29 * s))) k.toNat = sp_mx (fun s => sp_lk m (m (29 * s))) (k + 1).toNat by rw [sp_mx_s hk.1]; (try dsimp only); rw [hnum]; omega]
                  refine sv_istore dL_areKept_648 (by decide) rfl ?_
                  refine sv_iinc dL_areKept_650 rfl (by decide) rfl ?_
                  refine sv_goto (tgt := 29) dL_areKept_653 (by decide) ?_
                  refine sv_wk (ih (k + 1) _ (by omega) ⟨by omega, by omega⟩ hJ e478 e479 hbl) (by simp [sv_sub]) rfl
            have p487 : ∀ (f9 : sv_F) (vA : Int → Int), sv_J S2 r f9 m → f9 478 = f 478 → f9 479 = f 479 → f9 S.1 = vA → (∀ x, S2.1 ≤ x → f9 x = f x) → sv_T X (sv_rm 6 2 24) ML_areKept (sv_Zm X 2 24 (fun rv' S' f' r' g' => ∃ a, rv' = some (sv_i a) ∧ a = 1 ∧ sv_LI S' r' f')) 2 24 487 [some (sv_r 0), some (sv_r 478), some (sv_r 479), some (sv_r S.1), some (sv_r (S.1 + 1)), some (sv_i k), some (sv_i (sp_cnt (fun s => if m (29 * s + 3) = -1 then 1 else 0) k.toNat)), some (sv_i (sp_cnt (fun s => if sp_R m (m (29 * s)) = -1 then 0 else 1) k.toNat)), some (sv_i (sp_cnt (sp_we m) k.toNat)), some (sv_i (sp_mx (fun s => sp_lk m (m (29 * s))) k.toNat)), some (sv_i k), some (sv_i 0), some (sv_i (m (29 * k + 4))), some (sv_i (sp_we m k)), none, none, none, none] [] S2 (f9) r g := by
              intro f9 vA hJ e478 e479 eA hbl
              refine sv_aload_n (i := 0) dL_areKept_487 rfl rfl ?_
              refine sv_iload dL_areKept_488 rfl ?_
              refine sv_iconst dL_areKept_490 ?_
              refine sv_bipush dL_areKept_491 (by decide) ?_
              refine sv_vi0 (As := [_, _, _]) clL_108 dL_areKept_493 ⟨_, rfl, rfl⟩ (by decide) rfl (Nat.le_of_ble_eq_true rfl) (by decide) (by decide) hJ.k.1 hJ.k.2 (J_read hJ k 3 11 (by unfold sv_in; omega) (by decide) (by first | decide | (unfold sv_in; omega))) (fun a201 f201 hf201 => ?_)
              obtain ⟨ha201, hJ, hx201⟩ := hf201
              have e478 : f201 478 = f 478 := (hx201 478 (by omega)).trans e478
              have e479 : f201 479 = f 479 := (hx201 479 (by omega)).trans e479
              have eA : f201 S.1 = vA := (hx201 S.1 (by omega)).trans eA
              have hbl : ∀ x, S2.1 ≤ x → f201 x = f x := fun x h => (hx201 x (by omega)).trans (hbl x h)
              refine sv_iload dL_areKept_496 rfl ?_
              refine sv_if_eq (tgt := 508) dL_areKept_498 (by decide) (by decide) (fun h_498 => ?_) (fun h_498 => absurd h_498 (by decide))
              refine sv_bipush dL_areKept_508 (by decide) ?_
              refine sv_icmp_neT (tgt := 576) dL_areKept_510 (by decide) (by rw [ha201, lw_rd3 hq hw hk.1 hk1 (by decide), if_pos hR]) ?_
              refine sv_aload_n (i := 0) dL_areKept_513 rfl rfl ?_
              refine sv_iload dL_areKept_514 rfl ?_
              refine sv_iconst dL_areKept_516 ?_
              refine sv_iconst dL_areKept_517 ?_
              refine sv_vi0 (As := [_, _, _]) clL_108 dL_areKept_518 ⟨_, rfl, rfl⟩ (by decide) rfl (Nat.le_of_ble_eq_true rfl) (by decide) (by decide) hJ.k.1 hJ.k.2 (J_read hJ k 3 1 (by unfold sv_in; omega) (by decide) (by first | decide | (unfold sv_in; omega))) (fun a202 f202 hf202 => ?_)
              obtain ⟨ha202, hJ, hx202⟩ := hf202
              have e478 : f202 478 = f 478 := (hx202 478 (by omega)).trans e478
              have e479 : f202 479 = f 479 := (hx202 479 (by omega)).trans e479
              have eA : f202 S.1 = vA := (hx202 S.1 (by omega)).trans eA
              have hbl : ∀ x, S2.1 ≤ x → f202 x = f x := fun x h => (hx202 x (by omega)).trans (hbl x h)
              refine sv_iload dL_areKept_521 rfl ?_
              refine sv_if_eq (tgt := 532) dL_areKept_523 (by decide) (by decide) (fun h_523 => ?_) (fun h_523 => absurd h_523 (by decide))
              refine sv_bipush dL_areKept_532 (by decide) ?_
              refine sv_icmp_neT (tgt := 576) dL_areKept_534 (by decide) (by rw [ha202, lw_rd3 hq hw hk.1 hk1 (by decide), if_pos hR]) ?_
              refine sv_aload_n (i := 0) dL_areKept_537 rfl rfl ?_
              refine sv_iload dL_areKept_538 rfl ?_
              refine sv_iconst dL_areKept_540 ?_
              refine sv_iconst dL_areKept_541 ?_
              refine sv_vi0 (As := [_, _, _]) clL_108 dL_areKept_542 ⟨_, rfl, rfl⟩ (by decide) rfl (Nat.le_of_ble_eq_true rfl) (by decide) (by decide) hJ.k.1 hJ.k.2 (J_read hJ k 4 0 (by unfold sv_in; omega) (by decide) (by first | decide | (unfold sv_in; omega))) (fun a203 f203 hf203 => ?_)
              obtain ⟨ha203, hJ, hx203⟩ := hf203
              have e478 : f203 478 = f 478 := (hx203 478 (by omega)).trans e478
              have e479 : f203 479 = f 479 := (hx203 479 (by omega)).trans e479
              have eA : f203 S.1 = vA := (hx203 S.1 (by omega)).trans eA
              have hbl : ∀ x, S2.1 ≤ x → f203 x = f x := fun x h => (hx203 x (by omega)).trans (hbl x h)
              refine sv_bipush dL_areKept_545 (by decide) ?_
              refine sv_icmp_neT (tgt := 576) dL_areKept_547 (by decide) (by rw [ha203]; exact lw_rd4 (Or.inl rfl)) ?_
              refine sv_aload_n (i := 0) dL_areKept_550 rfl rfl ?_
              refine sv_iload dL_areKept_551 rfl ?_
              refine sv_iconst dL_areKept_553 ?_
              refine sv_iconst dL_areKept_554 ?_
              refine sv_vi0 (As := [_, _, _]) clL_108 dL_areKept_555 ⟨_, rfl, rfl⟩ (by decide) rfl (Nat.le_of_ble_eq_true rfl) (by decide) (by decide) hJ.k.1 hJ.k.2 (J_read hJ k 0 (-1) (by unfold sv_in; omega) (by decide) (by first | decide | (unfold sv_in; omega))) (fun a204 f204 hf204 => ?_)
              obtain ⟨ha204, hJ, hx204⟩ := hf204
              have e478 : f204 478 = f 478 := (hx204 478 (by omega)).trans e478
              have e479 : f204 479 = f 479 := (hx204 479 (by omega)).trans e479
              have eA : f204 S.1 = vA := (hx204 S.1 (by omega)).trans eA
              have hbl : ∀ x, S2.1 ≤ x → f204 x = f x := fun x h => (hx204 x (by omega)).trans (hbl x h)
              refine sv_bipush dL_areKept_558 (by decide) ?_
              refine sv_icmp_neT (tgt := 576) dL_areKept_560 (by decide) (by rw [ha204]; exact lw_rd4 (Or.inr (by decide))) ?_
              refine sv_aload_n (i := 0) dL_areKept_563 rfl rfl ?_
              refine sv_iload dL_areKept_564 rfl ?_
              refine sv_iload dL_areKept_566 rfl ?_
              refine sv_iconst dL_areKept_568 ?_
              refine sv_vp0 (As := [_, _, _]) clL_104 dL_areKept_569 ⟨_, rfl, rfl⟩ (by decide) rfl (Nat.le_of_ble_eq_true rfl) (by decide) (by decide) hJ.k.1 hJ.k.2 (J_entry hJ k _ 0 (by unfold sv_in; omega) (by unfold sv_in; omega) (by decide)) ?_
              refine sv_iconst dL_areKept_572 ?_
              refine sv_icmp_eqT (tgt := 578) dL_areKept_573 (by decide) (by rw [hsl, if_neg (by omega), if_pos (by omega)]) ?_
              exact sv_wk (p578 _ vA hJ e478 e479 eA hbl) (by simp [sv_sub]) rfl
            have lp7 : ∀ (f9 : sv_F) (vA : Int → Int), sv_J S2 r f9 m → f9 478 = f 478 → f9 479 = f 479 → f9 S.1 = vA → (∀ x, S2.1 ≤ x → f9 x = f x) → sv_T X (sv_rm 6 2 24) ML_areKept (sv_Zm X 2 24 (fun rv' S' f' r' g' => ∃ a, rv' = some (sv_i a) ∧ a = 1 ∧ sv_LI S' r' f')) 2 24 467 [some (sv_r 0), some (sv_r 478), some (sv_r 479), some (sv_r S.1), some (sv_r (S.1 + 1)), some (sv_i k), some (sv_i (sp_cnt (fun s => if m (29 * s + 3) = -1 then 1 else 0) k.toNat)), some (sv_i (sp_cnt (fun s => if sp_R m (m (29 * s)) = -1 then 0 else 1) k.toNat)), some (sv_i (sp_cnt (sp_we m) k.toNat)), some (sv_i (sp_mx (fun s => sp_lk m (m (29 * s))) k.toNat)), some (sv_i k), some (sv_i 0), some (sv_i (m (29 * k + 4))), some (sv_i (sp_we m k)), none, none, none, none] [] S2 (f9) r g := by
              intro f9 vA hJ e478 e479 eA hbl
              refine sv_iload dL_areKept_467 rfl ?_
              refine sv_if_eq (tgt := 487) dL_areKept_469 (by decide) (by decide) (fun h_469 => ?_) (fun h_469 => absurd h_469 (by decide))
              exact p487 f9 vA hJ e478 e479 eA hbl
            have l346 : ∀ vA : Int → Int, (0 : Int) = 0 → ∀ f7 : sv_F, sv_J S2 r f7 m → f7 478 = f 478 → f7 479 = f 479 → f7 S.1 = vA → (∀ x, S2.1 ≤ x → f7 x = f x) → sv_T X (sv_rm 6 2 24) ML_areKept (sv_Zm X 2 24 (fun rv' S' f' r' g' => ∃ a, rv' = some (sv_i a) ∧ a = 1 ∧ sv_LI S' r' f')) 2 24 346 [some (sv_r 0), some (sv_r 478), some (sv_r 479), some (sv_r S.1), some (sv_r (S.1 + 1)), some (sv_i k), some (sv_i (sp_cnt (fun s => if m (29 * s + 3) = -1 then 1 else 0) k.toNat)), some (sv_i (sp_cnt (fun s => if sp_R m (m (29 * s)) = -1 then 0 else 1) k.toNat)), some (sv_i (sp_cnt (sp_we m) k.toNat)), some (sv_i (sp_mx (fun s => sp_lk m (m (29 * s))) k.toNat)), some (sv_i k), some (sv_i 0), some (sv_i (m (29 * k + 4))), some (sv_i (sp_we m k)), some (sv_i (sp_bo m k)), some (sv_i 0), some (sv_i 0), none] [] S2 (f7) r g := by
              intro vA hV f7 hJ e478 e479 eA hbl
              have lp6 : ∀ (k6 : Nat) (p : Int) (f7 : sv_F), 12 - p < (k6 : Int) → (0 ≤ p ∧ p ≤ 12) → (sv_J S2 r f7 m) → (f7 478 = f 478) → (f7 479 = f 479) → (f7 S.1 = vA) → (∀ x, S2.1 ≤ x → f7 x = f x) → sv_T X (sv_rm 6 2 24) ML_areKept (sv_Zm X 2 24 (fun rv' S' f' r' g' => ∃ a, rv' = some (sv_i a) ∧ a = 1 ∧ sv_LI S' r' f')) 2 24 346 [some (sv_r 0), some (sv_r 478), some (sv_r 479), some (sv_r S.1), some (sv_r (S.1 + 1)), some (sv_i k), some (sv_i (sp_cnt (fun s => if m (29 * s + 3) = -1 then 1 else 0) k.toNat)), some (sv_i (sp_cnt (fun s => if sp_R m (m (29 * s)) = -1 then 0 else 1) k.toNat)), some (sv_i (sp_cnt (sp_we m) k.toNat)), some (sv_i (sp_mx (fun s => sp_lk m (m (29 * s))) k.toNat)), some (sv_i k), some (sv_i 0), some (sv_i (m (29 * k + 4))), some (sv_i (sp_we m k)), some (sv_i (sp_bo m k)), some (sv_i (lw_c (f 479 (8 * k + 3)) p.toNat)), some (sv_i p), none] [] S2 (f7) r g := by
                intro k6
                induction k6 with
                | zero =>
                  intro p f7 hk6 p0 hJ e478 e479 eA hbl
                  exact absurd hk6 (by omega)
                | succ k6 ih6 =>
                  intro p f7 hk6 p0 hJ e478 e479 eA hbl
                  obtain ⟨p0, p1⟩ := p0
                  have hci := lw_c_in (f 479 (8 * k + 3)) p.toNat
                  have p410 : ∀ f8 : sv_F, p < 12 → sv_J S2 r f8 m → f8 478 = f 478 → f8 479 = f 479 → f8 S.1 = vA → (∀ x, S2.1 ≤ x → f8 x = f x) → sv_T X (sv_rm 6 2 24) ML_areKept (sv_Zm X 2 24 (fun rv' S' f' r' g' => ∃ a, rv' = some (sv_i a) ∧ a = 1 ∧ sv_LI S' r' f')) 2 24 410 [some (sv_r 0), some (sv_r 478), some (sv_r 479), some (sv_r S.1), some (sv_r (S.1 + 1)), some (sv_i k), some (sv_i (sp_cnt (fun s => if m (29 * s + 3) = -1 then 1 else 0) k.toNat)), some (sv_i (sp_cnt (fun s => if sp_R m (m (29 * s)) = -1 then 0 else 1) k.toNat)), some (sv_i (sp_cnt (sp_we m) k.toNat)), some (sv_i (sp_mx (fun s => sp_lk m (m (29 * s))) k.toNat)), some (sv_i k), some (sv_i 0), some (sv_i (m (29 * k + 4))), some (sv_i (sp_we m k)), some (sv_i (sp_bo m k)), some (sv_i (lw_c (f 479 (8 * k + 3)) (p + 1).toNat)), some (sv_i p), none] [] S2 (f8) r g := by
                    intro f8 hp12 hJ e478 e479 eA hbl
                    refine sv_iload dL_areKept_410 rfl ?_
                    refine sv_if_ne (tgt := 420) dL_areKept_412 (by decide) (by decide) (fun h_412 => absurd h_412 (by decide)) (fun h_412 => ?_)
                    refine sv_bipush dL_areKept_415 (by decide) ?_
                    refine sv_goto (tgt := 443) dL_areKept_417 (by decide) ?_
                    refine sv_istore dL_areKept_443 (by decide) rfl ?_
                    refine sv_aload_n (i := 0) dL_areKept_445 rfl rfl ?_
                    refine sv_iload dL_areKept_446 rfl ?_
                    refine sv_iconst dL_areKept_448 ?_
                    refine sv_iload dL_areKept_449 rfl ?_
                    refine sv_vi0 (As := [_, _, _]) clL_108 dL_areKept_451 ⟨_, rfl, rfl⟩ (by decide) rfl (Nat.le_of_ble_eq_true rfl) (by decide) (by decide) hJ.k.1 hJ.k.2 (J_read hJ k 0 p (by unfold sv_in; omega) (by decide) (by first | decide | (unfold sv_in; omega))) (fun a101 f101 hf101 => ?_)
                    obtain ⟨ha101, hJ, hx101⟩ := hf101
                    have e478 : f101 478 = f 478 := (hx101 478 (by omega)).trans e478
                    have e479 : f101 479 = f 479 := (hx101 479 (by omega)).trans e479
                    have eA : f101 S.1 = vA := (hx101 S.1 (by omega)).trans eA
                    have hbl : ∀ x, S2.1 ≤ x → f101 x = f x := fun x h => (hx101 x (by omega)).trans (hbl x h)
                    refine sv_iload dL_areKept_454 rfl ?_
                    refine sv_icmp_eqT (tgt := 461) dL_areKept_456 (by decide) (by rw [ha101, lw_rd0 hq hw hk.1 hk1 p0, if_pos hR]) ?_
                    refine sv_iinc dL_areKept_461 rfl (by decide) rfl ?_
                    refine sv_goto (tgt := 346) dL_areKept_464 (by decide) ?_
                    refine sv_wk (ih6 (p + 1) _ (by omega) ⟨by omega, by omega⟩ hJ e478 e479 eA hbl) (by simp [sv_sub]) rfl
                  refine sv_iload dL_areKept_346 rfl ?_
                  refine sv_bipush dL_areKept_348 (by decide) ?_
                  refine sv_icmp_ge (tgt := 467) dL_areKept_350 (by decide) (by unfold sv_in; omega) (by decide) (fun h_350 => ?_) (fun h_350 => ?_)
                  · first
                    | (exact sv_wk (lp7 _ vA hJ e478 e479 eA hbl) (by simp [sv_sub]) rfl)
                  · refine sv_aload_n (i := 2) dL_areKept_353 rfl rfl ?_
                    refine sv_bipush dL_areKept_354 (by decide) ?_
                    refine sv_iload dL_areKept_356 rfl ?_
                    refine sv_imul dL_areKept_358 ?_
                    refine sv_iconst dL_areKept_359 ?_
                    refine sv_iadd dL_areKept_360 ?_
                    refine sv_iald dL_areKept_361 hb.1 hb.2 (by omega) ?_
                    rw [e479]
                    refine sv_iload dL_areKept_362 rfl ?_
                    refine sv_ishr dL_areKept_364 (bz_bshr w0.1 (by omega) p0 (by omega)) ?_
                    refine sv_iconst dL_areKept_365 ?_
                    refine sv_iand dL_areKept_366 ((bz_and1 (Int.ediv_nonneg w0.1 (by have := lw_2_pos p; omega)) (by have := Int.ediv_le_self (lw_2 p) w0.1; omega)).trans (congrArg Int32.ofInt (lw_bit w0.1))) ?_
                    refine sv_iconst dL_areKept_367 ?_
                    refine sv_icmp_ne (tgt := 410) dL_areKept_368 (by decide) (by rcases lw_b01 (f 479 (8 * k + 3)) p with e | e <;> rw [e] <;> decide) (by decide) (fun h_368 => ?_) (fun h_368 => ?_)
                    · first
                      | (refine sv_wk (p410 f7 (by omega) hJ e478 e479 eA hbl) ?_ rfl
                         rw [lw_c_s p0, h_368]
                         simp [sv_sub]; done)
                      | (refine sv_wk (p410 f7 (by omega) hJ e478 e479 eA hbl) ?_ rfl
                         rw [lw_c_s p0, show lw_b (f 479 (8 * k + 3)) p = 0 by rcases lw_b01 (f 479 (8 * k + 3)) p with e | e; exact e; exact absurd e h_368, Int.add_zero]
                         simp [sv_sub])
                    · have hlt := lw_c_lt (n := 12) p0 (by omega) h_368
                      have hwpp := wp p p0 (by omega) h_368
                      refine sv_aload_n (i := 0) dL_areKept_371 rfl rfl ?_
                      refine sv_iload dL_areKept_372 rfl ?_
                      refine sv_iload dL_areKept_374 rfl ?_
                      refine sv_iconst dL_areKept_376 ?_
                      refine sv_vp0 (As := [_, _, _]) clL_104 dL_areKept_377 ⟨_, rfl, rfl⟩ (by decide) rfl (Nat.le_of_ble_eq_true rfl) (by decide) (by decide) hJ.k.1 hJ.k.2 (J_entry hJ k _ 0 (by unfold sv_in; omega) (by unfold sv_in; omega) (by decide)) ?_
                      refine sv_iload dL_areKept_380 rfl ?_
                      refine sv_icmp_neT (tgt := 405) dL_areKept_382 (by decide) (by rw [hsl, if_neg (by omega), if_neg (by omega), if_pos rfl]; exact hwpp.1) ?_
                      refine sv_aload_n (i := 0) dL_areKept_385 rfl rfl ?_
                      refine sv_iload dL_areKept_386 rfl ?_
                      refine sv_iload dL_areKept_388 rfl ?_
                      refine sv_iconst dL_areKept_390 ?_
                      refine sv_vp0 (As := [_, _, _]) clL_104 dL_areKept_391 ⟨_, rfl, rfl⟩ (by decide) rfl (Nat.le_of_ble_eq_true rfl) (by decide) (by decide) hJ.k.1 hJ.k.2 (J_entry hJ k _ 1 (by unfold sv_in; omega) (by unfold sv_in; omega) (by decide)) ?_
                      refine sv_aload_n (i := 2) dL_areKept_394 rfl rfl ?_
                      refine sv_iload dL_areKept_395 rfl ?_
                      refine sv_iload dL_areKept_397 rfl ?_
                      refine sv_sp0 (As := [_, _, _]) clL_27 dL_areKept_399 rfl (Nat.le_of_ble_eq_true rfl) (by decide) (by decide) (c_L_packed (b := 479) hb (by omega) (by omega) (by rw [e479]; have hw5 := wr (5 + lw_c (f 479 (8 * k + 3)) p.toNat / 4) (by omega) (by omega); rw [show 8 * k + 5 + lw_c (f 479 (8 * k + 3)) p.toNat / 4 = 8 * k + (5 + lw_c (f 479 (8 * k + 3)) p.toNat / 4) by omega]; exact hw5)) ?_
                      rw [e479]
                      refine sv_icmp_eqT (tgt := 407) dL_areKept_402 (by decide) (by rw [hsl, if_neg (by omega), if_neg (by omega), if_neg (by decide)]; exact hwpp.2.symm) ?_
                      refine sv_iinc dL_areKept_407 rfl (by decide) rfl ?_
                      first
                      | (refine sv_wk (p410 f7 (by omega) hJ e478 e479 eA hbl) ?_ rfl
                         rw [lw_c_s p0, h_368]
                         simp [sv_sub]; done)
                      | (refine sv_wk (p410 f7 (by omega) hJ e478 e479 eA hbl) ?_ rfl
                         rw [lw_c_s p0, show lw_b (f 479 (8 * k + 3)) p = 0 by rcases lw_b01 (f 479 (8 * k + 3)) p with e | e; exact e; exact absurd e h_368, Int.add_zero]
                         simp [sv_sub])
              exact sv_cast (lp6 13 0 f7 (by omega) ⟨by decide, by decide⟩ hJ e478 e479 eA hbl) rfl rfl rfl rfl rfl rfl
            have p209 : ∀ vA : Int → Int, (0 : Int) = 0 → ∀ f7 : sv_F, sv_J S2 r f7 m → f7 478 = f 478 → f7 479 = f 479 → f7 S.1 = vA → (∀ x, S2.1 ≤ x → f7 x = f x) → sv_T X (sv_rm 6 2 24) ML_areKept (sv_Zm X 2 24 (fun rv' S' f' r' g' => ∃ a, rv' = some (sv_i a) ∧ a = 1 ∧ sv_LI S' r' f')) 2 24 209 [some (sv_r 0), some (sv_r 478), some (sv_r 479), some (sv_r S.1), some (sv_r (S.1 + 1)), some (sv_i k), some (sv_i (sp_cnt (fun s => if m (29 * s + 3) = -1 then 1 else 0) k.toNat)), some (sv_i (sp_cnt (fun s => if sp_R m (m (29 * s)) = -1 then 0 else 1) k.toNat)), some (sv_i (sp_cnt (sp_we m) k.toNat)), some (sv_i (sp_mx (fun s => sp_lk m (m (29 * s))) k.toNat)), some (sv_i k), some (sv_i 0), some (sv_i (m (29 * k + 4))), some (sv_i (sp_we m k)), some (sv_i (sp_bo m k)), none, none, none] [] S2 (f7) r g := by
              intro vA hV f7 hJ e478 e479 eA hbl
              refine sv_aload_n (i := 0) dL_areKept_209 rfl rfl ?_
              refine sv_iload dL_areKept_210 rfl ?_
              refine sv_iconst dL_areKept_212 ?_
              refine sv_vi0 (As := [_, _]) clL_101 dL_areKept_213 ⟨_, rfl, rfl⟩ (by decide) rfl (Nat.le_of_ble_eq_true rfl) (by decide) (by decide) hJ.k.1 hJ.k.2 (J_kept hJ k 0 (by unfold sv_in; omega) (by decide)) (fun a21 f21 hf21 => ?_)
              obtain ⟨ha21, hJ, hx21⟩ := hf21
              have e478 : f21 478 = f 478 := (hx21 478 (by omega)).trans e478
              have e479 : f21 479 = f 479 := (hx21 479 (by omega)).trans e479
              have eA : f21 S.1 = vA := (hx21 S.1 (by omega)).trans eA
              have hbl : ∀ x, S2.1 ≤ x → f21 x = f x := fun x h => (hx21 x (by omega)).trans (hbl x h)
              refine sv_aload_n (i := 2) dL_areKept_216 rfl rfl ?_
              refine sv_bipush dL_areKept_217 (by decide) ?_
              refine sv_iload dL_areKept_219 rfl ?_
              refine sv_imul dL_areKept_221 ?_
              refine sv_iald dL_areKept_222 hb.1 hb.2 (by omega) ?_
              rw [e479, q0]
              refine sv_icmp_neT (tgt := 338) dL_areKept_223 (by decide) (by rw [ha21, lw_kept hq hk.1 hk1 (by decide)]; rfl) ?_
              refine sv_aload_n (i := 0) dL_areKept_226 rfl rfl ?_
              refine sv_iload dL_areKept_227 rfl ?_
              refine sv_iconst dL_areKept_229 ?_
              refine sv_vi0 (As := [_, _]) clL_101 dL_areKept_230 ⟨_, rfl, rfl⟩ (by decide) rfl (Nat.le_of_ble_eq_true rfl) (by decide) (by decide) hJ.k.1 hJ.k.2 (J_kept hJ k 1 (by unfold sv_in; omega) (by decide)) (fun a22 f22 hf22 => ?_)
              obtain ⟨ha22, hJ, hx22⟩ := hf22
              have e478 : f22 478 = f 478 := (hx22 478 (by omega)).trans e478
              have e479 : f22 479 = f 479 := (hx22 479 (by omega)).trans e479
              have eA : f22 S.1 = vA := (hx22 S.1 (by omega)).trans eA
              have hbl : ∀ x, S2.1 ≤ x → f22 x = f x := fun x h => (hx22 x (by omega)).trans (hbl x h)
              refine sv_aload_n (i := 2) dL_areKept_233 rfl rfl ?_
              refine sv_bipush dL_areKept_234 (by decide) ?_
              refine sv_iload dL_areKept_236 rfl ?_
              refine sv_imul dL_areKept_238 ?_
              refine sv_iconst dL_areKept_239 ?_
              refine sv_iadd dL_areKept_240 ?_
              refine sv_iald dL_areKept_241 hb.1 hb.2 (by omega) ?_
              rw [e479, q1]
              refine sv_icmp_neT (tgt := 338) dL_areKept_242 (by decide) (by rw [ha22, lw_kept hq hk.1 hk1 (by decide)]; rfl) ?_
              refine sv_aload_n (i := 0) dL_areKept_245 rfl rfl ?_
              refine sv_iload dL_areKept_246 rfl ?_
              refine sv_iconst dL_areKept_248 ?_
              refine sv_vi0 (As := [_, _]) clL_101 dL_areKept_249 ⟨_, rfl, rfl⟩ (by decide) rfl (Nat.le_of_ble_eq_true rfl) (by decide) (by decide) hJ.k.1 hJ.k.2 (J_kept hJ k 2 (by unfold sv_in; omega) (by decide)) (fun a23 f23 hf23 => ?_)
              obtain ⟨ha23, hJ, hx23⟩ := hf23
              have e478 : f23 478 = f 478 := (hx23 478 (by omega)).trans e478
              have e479 : f23 479 = f 479 := (hx23 479 (by omega)).trans e479
              have eA : f23 S.1 = vA := (hx23 S.1 (by omega)).trans eA
              have hbl : ∀ x, S2.1 ≤ x → f23 x = f x := fun x h => (hx23 x (by omega)).trans (hbl x h)
              refine sv_aload_n (i := 2) dL_areKept_252 rfl rfl ?_
              refine sv_bipush dL_areKept_253 (by decide) ?_
              refine sv_iload dL_areKept_255 rfl ?_
              refine sv_imul dL_areKept_257 ?_
              refine sv_iconst dL_areKept_258 ?_
              refine sv_iadd dL_areKept_259 ?_
              refine sv_iald dL_areKept_260 hb.1 hb.2 (by omega) ?_
              rw [e479, q2]
              refine sv_icmp_neT (tgt := 338) dL_areKept_261 (by decide) (by rw [ha23, lw_kept hq hk.1 hk1 (by decide)]; rfl) ?_
              refine sv_aload_n (i := 0) dL_areKept_264 rfl rfl ?_
              refine sv_iload dL_areKept_265 rfl ?_
              refine sv_iconst dL_areKept_267 ?_
              refine sv_vi0 (As := [_, _]) clL_101 dL_areKept_268 ⟨_, rfl, rfl⟩ (by decide) rfl (Nat.le_of_ble_eq_true rfl) (by decide) (by decide) hJ.k.1 hJ.k.2 (J_kept hJ k 3 (by unfold sv_in; omega) (by decide)) (fun a24 f24 hf24 => ?_)
              obtain ⟨ha24, hJ, hx24⟩ := hf24
              have e478 : f24 478 = f 478 := (hx24 478 (by omega)).trans e478
              have e479 : f24 479 = f 479 := (hx24 479 (by omega)).trans e479
              have eA : f24 S.1 = vA := (hx24 S.1 (by omega)).trans eA
              have hbl : ∀ x, S2.1 ≤ x → f24 x = f x := fun x h => (hx24 x (by omega)).trans (hbl x h)
              refine sv_iload dL_areKept_271 rfl ?_
              refine sv_icmp_neT (tgt := 338) dL_areKept_273 (by decide) (by rw [ha24, lw_kept hq hk.1 hk1 (by decide)]; rfl) ?_
              refine sv_aload_n (i := 0) dL_areKept_276 rfl rfl ?_
              refine sv_iload dL_areKept_277 rfl ?_
              refine sv_iconst dL_areKept_279 ?_
              refine sv_vi0 (As := [_, _]) clL_101 dL_areKept_280 ⟨_, rfl, rfl⟩ (by decide) rfl (Nat.le_of_ble_eq_true rfl) (by decide) (by decide) hJ.k.1 hJ.k.2 (J_kept hJ k 4 (by unfold sv_in; omega) (by decide)) (fun a25 f25 hf25 => ?_)
              obtain ⟨ha25, hJ, hx25⟩ := hf25
              have e478 : f25 478 = f 478 := (hx25 478 (by omega)).trans e478
              have e479 : f25 479 = f 479 := (hx25 479 (by omega)).trans e479
              have eA : f25 S.1 = vA := (hx25 S.1 (by omega)).trans eA
              have hbl : ∀ x, S2.1 ≤ x → f25 x = f x := fun x h => (hx25 x (by omega)).trans (hbl x h)
              refine sv_aload_n (i := 2) dL_areKept_283 rfl rfl ?_
              refine sv_iload dL_areKept_284 rfl ?_
              refine sv_sp0 (As := [_, _]) clL_15 dL_areKept_286 rfl (Nat.le_of_ble_eq_true rfl) (by decide) (by decide) (c_L_links (b := 479) hb hw (by rw [e479]; exact hq) ⟨hk.1, hk1⟩) ?_
              refine sv_icmp_neT (tgt := 338) dL_areKept_289 (by decide) (by rw [ha25, lw_kept hq hk.1 hk1 (by decide)]; show sp_lk m (m (29 * k)) = _; rw [hnum]) ?_
              refine sv_aload_n (i := 0) dL_areKept_292 rfl rfl ?_
              refine sv_iload dL_areKept_293 rfl ?_
              refine sv_iconst dL_areKept_295 ?_
              refine sv_vi0 (As := [_, _]) clL_101 dL_areKept_296 ⟨_, rfl, rfl⟩ (by decide) rfl (Nat.le_of_ble_eq_true rfl) (by decide) (by decide) hJ.k.1 hJ.k.2 (J_kept hJ k 5 (by unfold sv_in; omega) (by decide)) (fun a26 f26 hf26 => ?_)
              obtain ⟨ha26, hJ, hx26⟩ := hf26
              have e478 : f26 478 = f 478 := (hx26 478 (by omega)).trans e478
              have e479 : f26 479 = f 479 := (hx26 479 (by omega)).trans e479
              have eA : f26 S.1 = vA := (hx26 S.1 (by omega)).trans eA
              have hbl : ∀ x, S2.1 ≤ x → f26 x = f x := fun x h => (hx26 x (by omega)).trans (hbl x h)
              refine sv_iload dL_areKept_299 rfl ?_
              refine sv_if_eq (tgt := 308) dL_areKept_301 (by decide) (by decide) (fun h_301 => ?_) (fun h_301 => absurd h_301 (by decide))
              refine sv_iconst dL_areKept_308 ?_
              refine sv_icmp_neT (tgt := 338) dL_areKept_309 (by decide) (by rw [ha26, lw_kept hq hk.1 hk1 (by decide)]; show (if sp_R m (m (29 * k)) = -1 then (1 : Int) else 0) = _; rw [hnum, if_neg hR]) ?_
              refine sv_aload_n (i := 0) dL_areKept_312 rfl rfl ?_
              refine sv_iload dL_areKept_313 rfl ?_
              refine sv_bipush dL_areKept_315 (by decide) ?_
              refine sv_vi0 (As := [_, _]) clL_101 dL_areKept_317 ⟨_, rfl, rfl⟩ (by decide) rfl (Nat.le_of_ble_eq_true rfl) (by decide) (by decide) hJ.k.1 hJ.k.2 (J_kept hJ k 6 (by unfold sv_in; omega) (by decide)) (fun a27 f27 hf27 => ?_)
              obtain ⟨ha27, hJ, hx27⟩ := hf27
              have e478 : f27 478 = f 478 := (hx27 478 (by omega)).trans e478
              have e479 : f27 479 = f 479 := (hx27 479 (by omega)).trans e479
              have eA : f27 S.1 = vA := (hx27 S.1 (by omega)).trans eA
              have hbl : ∀ x, S2.1 ≤ x → f27 x = f x := fun x h => (hx27 x (by omega)).trans (hbl x h)
              refine sv_iload dL_areKept_320 rfl ?_
              refine sv_icmp_neT (tgt := 338) dL_areKept_322 (by decide) (by rw [ha27, lw_kept hq hk.1 hk1 (by decide)]; rfl) ?_
              refine sv_aload_n (i := 0) dL_areKept_325 rfl rfl ?_
              refine sv_iload dL_areKept_326 rfl ?_
              refine sv_bipush dL_areKept_328 (by decide) ?_
              refine sv_vi0 (As := [_, _]) clL_101 dL_areKept_330 ⟨_, rfl, rfl⟩ (by decide) rfl (Nat.le_of_ble_eq_true rfl) (by decide) (by decide) hJ.k.1 hJ.k.2 (J_kept hJ k 7 (by unfold sv_in; omega) (by decide)) (fun a28 f28 hf28 => ?_)
              obtain ⟨ha28, hJ, hx28⟩ := hf28
              have e478 : f28 478 = f 478 := (hx28 478 (by omega)).trans e478
              have e479 : f28 479 = f 479 := (hx28 479 (by omega)).trans e479
              have eA : f28 S.1 = vA := (hx28 S.1 (by omega)).trans eA
              have hbl : ∀ x, S2.1 ≤ x → f28 x = f x := fun x h => (hx28 x (by omega)).trans (hbl x h)
              refine sv_iload dL_areKept_333 rfl ?_
              refine sv_icmp_eqT (tgt := 340) dL_areKept_335 (by decide) (by rw [ha28, lw_kept hq hk.1 hk1 (by decide)]; show sp_bo m (m (29 * k)) = _; rw [hnum]) ?_
              refine sv_iconst dL_areKept_340 ?_
              refine sv_istore dL_areKept_341 (by decide) rfl ?_
              refine sv_iconst dL_areKept_343 ?_
              refine sv_istore dL_areKept_344 (by decide) rfl ?_
              exact l346 vA hV _ hJ e478 e479 eA hbl
            have p154 : ∀ vA : Int → Int, (0 : Int) = 0 → ∀ f7 : sv_F, sv_J S2 r f7 m → f7 478 = f 478 → f7 479 = f 479 → f7 S.1 = vA → (∀ x, S2.1 ≤ x → f7 x = f x) → sv_T X (sv_rm 6 2 24) ML_areKept (sv_Zm X 2 24 (fun rv' S' f' r' g' => ∃ a, rv' = some (sv_i a) ∧ a = 1 ∧ sv_LI S' r' f')) 2 24 154 [some (sv_r 0), some (sv_r 478), some (sv_r 479), some (sv_r S.1), some (sv_r (S.1 + 1)), some (sv_i k), some (sv_i (sp_cnt (fun s => if m (29 * s + 3) = -1 then 1 else 0) k.toNat)), some (sv_i (sp_cnt (fun s => if sp_R m (m (29 * s)) = -1 then 0 else 1) k.toNat)), some (sv_i (sp_cnt (sp_we m) k.toNat)), some (sv_i (sp_mx (fun s => sp_lk m (m (29 * s))) k.toNat)), some (sv_i k), some (sv_i 0), some (sv_i (m (29 * k + 4))), some (sv_i (sp_we m k)), none, none, none, none] [] S2 (f7) r g := by
              intro vA hV f7 hJ e478 e479 eA hbl
              have lp5 : ∀ (k5 : Nat) (j : Int), m 580 - j < (k5 : Int) → (0 ≤ j ∧ j ≤ m 580) → sv_T X (sv_rm 6 2 24) ML_areKept (sv_Zm X 2 24 (fun rv' S' f' r' g' => ∃ a, rv' = some (sv_i a) ∧ a = 1 ∧ sv_LI S' r' f')) 2 24 160 [some (sv_r 0), some (sv_r 478), some (sv_r 479), some (sv_r S.1), some (sv_r (S.1 + 1)), some (sv_i k), some (sv_i (sp_cnt (fun s => if m (29 * s + 3) = -1 then 1 else 0) k.toNat)), some (sv_i (sp_cnt (fun s => if sp_R m (m (29 * s)) = -1 then 0 else 1) k.toNat)), some (sv_i (sp_cnt (sp_we m) k.toNat)), some (sv_i (sp_mx (fun s => sp_lk m (m (29 * s))) k.toNat)), some (sv_i k), some (sv_i 0), some (sv_i (m (29 * k + 4))), some (sv_i (sp_we m k)), some (sv_i (sp_cnt (fun s => if m (29 * s + 3) = k then 1 else 0) j.toNat)), some (sv_i j), none, none] [] S2 (f7) r g := by
                intro k5
                induction k5 with
                | zero =>
                  intro j hk5 jj
                  exact absurd hk5 (by omega)
                | succ k5 ih5 =>
                  intro j hk5 jj
                  obtain ⟨j0, j1⟩ := jj
                  refine sv_iload dL_areKept_160 rfl ?_
                  refine sv_aload_n (i := 1) dL_areKept_162 rfl rfl ?_
                  refine sv_bipush dL_areKept_163 (by decide) ?_
                  refine sv_iald dL_areKept_165 hG.1 hG.2 (by decide) ?_
                  rw [e478, g16]
                  refine sv_icmp_ge (tgt := 209) dL_areKept_166 (by decide) (by unfold sv_in; omega) (by unfold sv_in; omega) (fun h_166 => ?_) (fun h_166 => ?_)
                  · obtain rfl : j = m 580 := by omega
                    exact sv_wk (p209 vA hV f7 hJ e478 e479 eA hbl) (by simp [sv_sub, sp_bo]) rfl
                  · obtain ⟨⟨qj0, -, qj2, -⟩, -⟩ := hq.row (s := j) j0 (by omega)
                    have hjf := hw.frm (s := j) j0 (by omega)
                    have hjb := hq.base hw (k := j) j0 (by omega)
                    refine sv_iload dL_areKept_169 rfl ?_
                    refine sv_aload_n (i := 2) dL_areKept_171 rfl rfl ?_
                    refine sv_bipush dL_areKept_172 (by decide) ?_
                    refine sv_iload dL_areKept_174 rfl ?_
                    refine sv_imul dL_areKept_176 ?_
                    refine sv_iald dL_areKept_177 hb.1 hb.2 (by omega) ?_
                    rw [e479, qj0]
                    refine sv_if_le (tgt := 199) dL_areKept_178 (by decide) (by unfold sv_in; omega) (fun h_178 => absurd h_178 (by omega)) (fun h_178 => ?_)
                    refine sv_aload_n (i := 2) dL_areKept_181 rfl rfl ?_
                    refine sv_bipush dL_areKept_182 (by decide) ?_
                    refine sv_iload dL_areKept_184 rfl ?_
                    refine sv_imul dL_areKept_186 ?_
                    refine sv_iconst dL_areKept_187 ?_
                    refine sv_iadd dL_areKept_188 ?_
                    refine sv_iald dL_areKept_189 hb.1 hb.2 (by omega) ?_
                    rw [e479, qj2]
                    refine sv_iload dL_areKept_190 rfl ?_
                    refine sv_icmp_ne (tgt := 199) dL_areKept_192 (by decide) (by unfold sv_in; omega) (by unfold sv_in; omega) (fun h_192 => ?_) (fun h_192 => ?_)
                    · refine sv_iconst dL_areKept_199 ?_
                      refine sv_iadd dL_areKept_200 ?_
                      first
                      | rw [show sp_cnt (fun s => if m (29 * s + 3) = k then 1 else 0) j.toNat + 1 = sp_cnt (fun s => if m (29 * s + 3) = k then 1 else 0) (j + 1).toNat by rw [sp_cnt_s j0]; (try dsimp only); rw [if_pos (by assumption)]]
                      | rw [show sp_cnt (fun s => if m (29 * s + 3) = k then 1 else 0) j.toNat + 0 = sp_cnt (fun s => if m (29 * s + 3) = k then 1 else 0) (j + 1).toNat by rw [sp_cnt_s j0]; (try dsimp only); rw [if_neg (by assumption)]]
                      refine sv_istore dL_areKept_201 (by decide) rfl ?_
                      refine sv_iinc dL_areKept_203 rfl (by decide) rfl ?_
                      refine sv_goto (tgt := 160) dL_areKept_206 (by decide) ?_
                      refine sv_cast (ih5 (j + 1) (by omega) (by omega)) rfl rfl rfl rfl rfl rfl
                    · refine sv_iconst dL_areKept_195 ?_
                      refine sv_goto (tgt := 200) dL_areKept_196 (by decide) ?_
                      refine sv_iadd dL_areKept_200 ?_
                      first
                      | rw [show sp_cnt (fun s => if m (29 * s + 3) = k then 1 else 0) j.toNat + 1 = sp_cnt (fun s => if m (29 * s + 3) = k then 1 else 0) (j + 1).toNat by rw [sp_cnt_s j0]; (try dsimp only); rw [if_pos (by assumption)]]
                      | rw [show sp_cnt (fun s => if m (29 * s + 3) = k then 1 else 0) j.toNat + 0 = sp_cnt (fun s => if m (29 * s + 3) = k then 1 else 0) (j + 1).toNat by rw [sp_cnt_s j0]; (try dsimp only); rw [if_neg (by assumption)]]
                      refine sv_istore dL_areKept_201 (by decide) rfl ?_
                      refine sv_iinc dL_areKept_203 rfl (by decide) rfl ?_
                      refine sv_goto (tgt := 160) dL_areKept_206 (by decide) ?_
                      refine sv_cast (ih5 (j + 1) (by omega) (by omega)) rfl rfl rfl rfl rfl rfl
              refine sv_iconst dL_areKept_154 ?_
              refine sv_istore dL_areKept_155 (by decide) rfl ?_
              refine sv_iconst dL_areKept_157 ?_
              refine sv_istore dL_areKept_158 (by decide) rfl ?_
              exact sv_cast (lp5 (m 580 + 1).toNat 0 (by omega) (by omega)) rfl rfl rfl rfl rfl rfl
            exact fun vA hV f7 hJ e478 e479 eA hbl => by
              refine sv_aload_n (i := 2) dL_areKept_117 rfl rfl ?_
              refine sv_bipush dL_areKept_118 (by decide) ?_
              refine sv_iload dL_areKept_120 rfl ?_
              refine sv_imul dL_areKept_122 ?_
              refine sv_iconst dL_areKept_123 ?_
              refine sv_iadd dL_areKept_124 ?_
              refine sv_iald dL_areKept_125 hb.1 hb.2 (by omega) ?_
              rw [e479, q4]
              refine sv_istore dL_areKept_126 (by decide) rfl ?_
              refine sv_aload_n (i := 2) dL_areKept_128 rfl rfl ?_
              refine sv_bipush dL_areKept_129 (by decide) ?_
              refine sv_iload dL_areKept_131 rfl ?_
              refine sv_imul dL_areKept_133 ?_
              refine sv_iconst dL_areKept_134 ?_
              refine sv_iadd dL_areKept_135 ?_
              refine sv_iald dL_areKept_136 hb.1 hb.2 (by omega) ?_
              rw [e479, q2]
              refine sv_iconst dL_areKept_137 ?_
              refine sv_icmp_ne (tgt := 146) dL_areKept_138 (by decide) (by unfold sv_in; omega) (by decide) (fun h_138 => ?_) (fun h_138 => ?_)
              · refine sv_iconst dL_areKept_146 ?_
                refine sv_iconst dL_areKept_147 ?_
                refine sv_iload dL_areKept_148 rfl ?_
                refine sv_imul dL_areKept_150 ?_
                refine sv_iadd dL_areKept_151 ?_
                refine sv_istore dL_areKept_152 (by decide) rfl ?_
                refine sv_wk (p154 vA hV f7 hJ e478 e479 eA hbl) ?_ rfl
                unfold sp_we
                first
                | (rw [if_pos (by assumption)]; simp [sv_sub]; done)
                | (rw [if_neg (by assumption)]; simp [sv_sub])
              · refine sv_iload dL_areKept_141 rfl ?_
                refine sv_goto (tgt := 152) dL_areKept_143 (by decide) ?_
                refine sv_istore dL_areKept_152 (by decide) rfl ?_
                refine sv_wk (p154 vA hV f7 hJ e478 e479 eA hbl) ?_ rfl
                unfold sp_we
                first
                | (rw [if_pos (by assumption)]; simp [sv_sub]; done)
                | (rw [if_neg (by assumption)]; simp [sv_sub])
          refine sv_aload_n (i := 2) dL_areKept_38 rfl rfl ?_
          refine sv_bipush dL_areKept_39 (by decide) ?_
          refine sv_iload dL_areKept_41 rfl ?_
          refine sv_imul dL_areKept_43 ?_
          refine sv_iald dL_areKept_44 hb.1 hb.2 (by omega) ?_
          rw [e479, q0]
          refine sv_if_ne (tgt := 97) dL_areKept_45 (by decide) (by unfold sv_in; omega) (fun h_45 => ?_) (fun h_45 => absurd h_45 (by omega))
          refine sv_aload_n (i := 2) dL_areKept_97 rfl rfl ?_
          refine sv_iload dL_areKept_98 rfl ?_
          refine sv_aload_n (i := 3) dL_areKept_100 rfl rfl ?_
          refine sv_aload dL_areKept_101 rfl ?_
          refine sv_si0 (As := [_, _, _, _]) clL_34 dL_areKept_103 rfl (Nat.le_of_ble_eq_true rfl) (by decide) (by decide) (c_L_reads (b := 479) (a := S.1) (c := S.1 + 1) hb hw (by rw [e479]; exact hq) ha hc (by omega) (by omega) (by omega) ⟨hk.1, hk1⟩) (fun a9 f9 hf9 => ?_)
          obtain ⟨ha9, hx9, hV9⟩ := hf9
          have hJ := hJ.hi (f' := f9) fun x hx => hx9 x (by omega) (by omega)
          have e478 : f9 478 = f 478 := (hx9 478 (by omega) (by omega)).trans e478
          have e479 : f9 479 = f 479 := (hx9 479 (by omega) (by omega)).trans e479
          have hbl : ∀ x, S2.1 ≤ x → f9 x = f x := fun x h => (hx9 x (by omega) (by omega)).trans (hbl x h)
          have hRb : -1 ≤ sp_R m k ∧ sp_R m k ≤ 2 := sp_R_in hw
          refine sv_iconst dL_areKept_106 ?_
          refine sv_icmp_ne (tgt := 114) dL_areKept_107 (by decide) (by unfold sv_in; omega) (by decide) (fun h_107 => ?_) (fun h_107 => ?_)
          · refine sv_iconst dL_areKept_114 ?_
            refine sv_istore dL_areKept_115 (by decide) rfl ?_
            first
            | exact q117_1 (ha9.symm.trans h_107) (f9 S.1) (fun _ => hV9 (ha9.symm.trans h_107)) f9 hJ e478 e479 rfl hbl
            | exact q117_0 (fun z => h_107 (ha9.trans z)) (f9 S.1) rfl f9 hJ e478 e479 rfl hbl
          · refine sv_iconst dL_areKept_110 ?_
            refine sv_goto (tgt := 115) dL_areKept_111 (by decide) ?_
            refine sv_istore dL_areKept_115 (by decide) rfl ?_
            first
            | exact q117_1 (ha9.symm.trans h_107) (f9 S.1) (fun _ => hV9 (ha9.symm.trans h_107)) f9 hJ e478 e479 rfl hbl
            | exact q117_0 (fun z => h_107 (ha9.trans z)) (f9 S.1) rfl f9 hJ e478 e479 rfl hbl
        refine sv_iload dL_areKept_29 rfl ?_
        refine sv_aload_n (i := 1) dL_areKept_31 rfl rfl ?_
        refine sv_bipush dL_areKept_32 (by decide) ?_
        refine sv_iald dL_areKept_34 hG.1 hG.2 (by decide) ?_
        rw [e478, g16]
        refine sv_icmp_ge (tgt := 656) dL_areKept_35 (by decide) (by unfold sv_in; omega) (by unfold sv_in; omega) (fun h_35 => ?_) (fun h_35 => ?_)
        · have hke : k = m 580 := by omega
          refine sv_aload_n (i := 0) dL_areKept_656 rfl rfl ?_
          refine sv_iconst dL_areKept_657 ?_
          refine sv_vi0 (As := [_]) clL_98 dL_areKept_658 ⟨_, rfl, rfl⟩ (by decide) rfl (Nat.le_of_ble_eq_true rfl) (by decide) (by decide) hJ.k.1 hJ.k.2 (J_count hJ 3 (by decide) (by decide)) (fun a401 f401 hf401 => ?_)
          obtain ⟨ha401, hJ, hx401⟩ := hf401
          have e478 : f401 478 = f 478 := (hx401 478 (by omega)).trans e478
          have e479 : f401 479 = f 479 := (hx401 479 (by omega)).trans e479
          have hbl : ∀ x, S2.1 ≤ x → f401 x = f x := fun x h => (hx401 x (by omega)).trans (hbl x h)
          refine sv_iload dL_areKept_661 rfl ?_
          refine sv_icmp_neT (tgt := 748) dL_areKept_663 (by decide) (by rw [ha401]; show m 580 = k; omega) ?_
          refine sv_aload_n (i := 0) dL_areKept_666 rfl rfl ?_
          refine sv_iconst dL_areKept_667 ?_
          refine sv_vi0 (As := [_]) clL_98 dL_areKept_668 ⟨_, rfl, rfl⟩ (by decide) rfl (Nat.le_of_ble_eq_true rfl) (by decide) (by decide) hJ.k.1 hJ.k.2 (J_count hJ 4 (by decide) (by decide)) (fun a402 f402 hf402 => ?_)
          obtain ⟨ha402, hJ, hx402⟩ := hf402
          have e478 : f402 478 = f 478 := (hx402 478 (by omega)).trans e478
          have e479 : f402 479 = f 479 := (hx402 479 (by omega)).trans e479
          have hbl : ∀ x, S2.1 ≤ x → f402 x = f x := fun x h => (hx402 x (by omega)).trans (hbl x h)
          refine sv_iload dL_areKept_671 rfl ?_
          refine sv_icmp_neT (tgt := 748) dL_areKept_673 (by decide) (by rw [ha402, hke]; rfl) ?_
          refine sv_aload_n (i := 0) dL_areKept_676 rfl rfl ?_
          refine sv_iconst dL_areKept_677 ?_
          refine sv_vi0 (As := [_]) clL_98 dL_areKept_678 ⟨_, rfl, rfl⟩ (by decide) rfl (Nat.le_of_ble_eq_true rfl) (by decide) (by decide) hJ.k.1 hJ.k.2 (J_count hJ 5 (by decide) (by decide)) (fun a403 f403 hf403 => ?_)
          obtain ⟨ha403, hJ, hx403⟩ := hf403
          have e478 : f403 478 = f 478 := (hx403 478 (by omega)).trans e478
          have e479 : f403 479 = f 479 := (hx403 479 (by omega)).trans e479
          have hbl : ∀ x, S2.1 ≤ x → f403 x = f x := fun x h => (hx403 x (by omega)).trans (hbl x h)
          refine sv_iload dL_areKept_681 rfl ?_
          refine sv_icmp_neT (tgt := 748) dL_areKept_683 (by decide) (by rw [ha403, hke]; rfl) ?_
          refine sv_aload_n (i := 0) dL_areKept_686 rfl rfl ?_
          refine sv_bipush dL_areKept_687 (by decide) ?_
          refine sv_vi0 (As := [_]) clL_98 dL_areKept_689 ⟨_, rfl, rfl⟩ (by decide) rfl (Nat.le_of_ble_eq_true rfl) (by decide) (by decide) hJ.k.1 hJ.k.2 (J_count hJ 6 (by decide) (by decide)) (fun a404 f404 hf404 => ?_)
          obtain ⟨ha404, hJ, hx404⟩ := hf404
          have e478 : f404 478 = f 478 := (hx404 478 (by omega)).trans e478
          have e479 : f404 479 = f 479 := (hx404 479 (by omega)).trans e479
          have hbl : ∀ x, S2.1 ≤ x → f404 x = f x := fun x h => (hx404 x (by omega)).trans (hbl x h)
          refine sv_iload dL_areKept_692 rfl ?_
          refine sv_icmp_neT (tgt := 748) dL_areKept_694 (by decide) (by rw [ha404, hke]; rfl) ?_
          refine sv_aload_n (i := 0) dL_areKept_697 rfl rfl ?_
          refine sv_bipush dL_areKept_698 (by decide) ?_
          refine sv_vi0 (As := [_]) clL_98 dL_areKept_700 ⟨_, rfl, rfl⟩ (by decide) rfl (Nat.le_of_ble_eq_true rfl) (by decide) (by decide) hJ.k.1 hJ.k.2 (J_count hJ 8 (by decide) (by decide)) (fun a405 f405 hf405 => ?_)
          obtain ⟨ha405, hJ, hx405⟩ := hf405
          have e478 : f405 478 = f 478 := (hx405 478 (by omega)).trans e478
          have e479 : f405 479 = f 479 := (hx405 479 (by omega)).trans e479
          have hbl : ∀ x, S2.1 ≤ x → f405 x = f x := fun x h => (hx405 x (by omega)).trans (hbl x h)
          refine sv_iload dL_areKept_703 rfl ?_
          refine sv_icmp_neT (tgt := 748) dL_areKept_705 (by decide) (by rw [ha405, hke]; rfl) ?_
          refine sv_aload_n (i := 0) dL_areKept_708 rfl rfl ?_
          refine sv_aload_n (i := 1) dL_areKept_709 rfl rfl ?_
          refine sv_bipush dL_areKept_710 (by decide) ?_
          refine sv_iald dL_areKept_712 hG.1 hG.2 (by decide) ?_
          rw [e478, g16]
          refine sv_iconst dL_areKept_713 ?_
          refine sv_vi0 (As := [_, _]) clL_101 dL_areKept_714 ⟨_, rfl, rfl⟩ (by decide) rfl (Nat.le_of_ble_eq_true rfl) (by decide) (by decide) hJ.k.1 hJ.k.2 (J_kept hJ _ 0 (by first | decide | (unfold sv_in; omega)) (by decide)) (fun a406 f406 hf406 => ?_)
          obtain ⟨ha406, hJ, hx406⟩ := hf406
          have e478 : f406 478 = f 478 := (hx406 478 (by omega)).trans e478
          have e479 : f406 479 = f 479 := (hx406 479 (by omega)).trans e479
          have hbl : ∀ x, S2.1 ≤ x → f406 x = f x := fun x h => (hx406 x (by omega)).trans (hbl x h)
          refine sv_iconst dL_areKept_717 ?_
          refine sv_icmp_neT (tgt := 748) dL_areKept_718 (by decide) (by rw [ha406, if_neg (by omega), hq.none (Or.inr (Int.le_refl _)), if_pos rfl]) ?_
          refine sv_aload_n (i := 0) dL_areKept_721 rfl rfl ?_
          refine sv_iconst dL_areKept_722 ?_
          refine sv_iconst dL_areKept_723 ?_
          refine sv_vi0 (As := [_, _]) clL_101 dL_areKept_724 ⟨_, rfl, rfl⟩ (by decide) rfl (Nat.le_of_ble_eq_true rfl) (by decide) (by decide) hJ.k.1 hJ.k.2 (J_kept hJ _ 0 (by first | decide | (unfold sv_in; omega)) (by decide)) (fun a407 f407 hf407 => ?_)
          obtain ⟨ha407, hJ, hx407⟩ := hf407
          have e478 : f407 478 = f 478 := (hx407 478 (by omega)).trans e478
          have e479 : f407 479 = f 479 := (hx407 479 (by omega)).trans e479
          have hbl : ∀ x, S2.1 ≤ x → f407 x = f x := fun x h => (hx407 x (by omega)).trans (hbl x h)
          refine sv_bipush dL_areKept_727 (by decide) ?_
          refine sv_icmp_neT (tgt := 748) dL_areKept_729 (by decide) (by rw [ha407, if_pos (by decide)]) ?_
          refine sv_aload_n (i := 0) dL_areKept_732 rfl rfl ?_
          refine sv_iconst dL_areKept_733 ?_
          refine sv_bipush dL_areKept_734 (by decide) ?_
          refine sv_vi0 (As := [_, _]) clL_101 dL_areKept_736 ⟨_, rfl, rfl⟩ (by decide) rfl (Nat.le_of_ble_eq_true rfl) (by decide) (by decide) hJ.k.1 hJ.k.2 (J_kept hJ _ 8 (by first | decide | (unfold sv_in; omega)) (by decide)) (fun a408 f408 hf408 => ?_)
          obtain ⟨ha408, hJ, hx408⟩ := hf408
          have e478 : f408 478 = f 478 := (hx408 478 (by omega)).trans e478
          have e479 : f408 479 = f 479 := (hx408 479 (by omega)).trans e479
          have hbl : ∀ x, S2.1 ≤ x → f408 x = f x := fun x h => (hx408 x (by omega)).trans (hbl x h)
          refine sv_bipush dL_areKept_739 (by decide) ?_
          refine sv_icmp_neT (tgt := 748) dL_areKept_741 (by decide) (by rw [ha408, if_pos (by decide)]) ?_
          refine sv_iconst dL_areKept_744 ?_
          refine sv_goto (tgt := 749) dL_areKept_745 (by decide) ?_
          refine sv_zreturn dL_areKept_749 rfl (by decide) ?_
          exact ⟨_, rfl, rfl, m, hJ, hJS _ hbl, by rw [e478]; exact hg, by rw [e479]; exact hq⟩
        · exact inner (by omega)
    refine sv_iconst dL_areKept_11 ?_
    refine sv_istore dL_areKept_12 (by decide) rfl ?_
    refine sv_iconst dL_areKept_14 ?_
    refine sv_istore dL_areKept_15 (by decide) rfl ?_
    refine sv_iconst dL_areKept_17 ?_
    refine sv_istore dL_areKept_18 (by decide) rfl ?_
    refine sv_iconst dL_areKept_20 ?_
    refine sv_istore dL_areKept_21 (by decide) rfl ?_
    refine sv_iconst dL_areKept_23 ?_
    refine sv_istore dL_areKept_24 (by decide) rfl ?_
    refine sv_iconst dL_areKept_26 ?_
    refine sv_istore dL_areKept_27 (by decide) rfl ?_
    exact sv_cast (lp (m 580 + 1).toNat 0 f (by omega) ⟨by omega, by omega⟩ hJ rfl rfl (fun _ _ => rfl)) rfl rfl rfl rfl rfl rfl
  refine sv_bipush dL_areKept_0 (by decide) ?_
  refine sv_aF (a := S.1) rfl rfl (by decide) dL_areKept_2 hS.2.2.2 ⟨by decide, by decide⟩ sv_arI (fun S1 zS1 kS1 eS1 => ?_)
  refine sv_astore_n (i := 3) dL_areKept_4 rfl (by decide) rfl ?_
  refine sv_bipush dL_areKept_5 (by decide) ?_
  refine sv_aF (a := (S.1 + 1)) zS1 rfl (by decide) dL_areKept_7 (fun x hx => hS.2.2.2 x (by omega)) ⟨by decide, by decide⟩ sv_arI (fun S2 zS2 kS2 eS2 => ?_)
  refine sv_astore dL_areKept_9 (by decide) rfl ?_
  exact main S2 (by omega) (by rw [eS2 _ (by omega)]; exact kS1) kS2 (fun x hx => by rw [eS2 x (by omega), eS1 x hx])
