section SVROW
variable {f f' : sv_F} {k : Nat} {mi m' v w : Int → Int} {s n b : Int}
theorem sv_V0.ofW (h0 : sv_w0 f f' k (-1) n) (hk : sv_V0 f k mi s) (h1 : ∀ j, 29 * s ≤ j → j < 29 * s + 3 → m' j = mi j) (hr : sp_rowW m' s n w) (hv : ∀ i, 0 ≤ i → i < n → f' (k + 1) i = i ∧ f' (k + 2) i = w i) : sv_V0 f' k m' s := by
  obtain ⟨-, e0, e1, e2, e3, e4⟩ := h0
  refine ⟨?_, ?_, ?_, ?_, ?_, fun j j0 j1 => ?_⟩
  · rw [e0, h1 _ (by omega) (by omega)]; exact hk.num
  · rw [e1, h1 _ (by omega) (by omega)]; exact hk.form
  · rw [e2, h1 _ (by omega) (by omega)]; exact hk.sum
  · rw [e3, hr.1]
  · rw [e4, hr.2.1]
  · rw [hr.2.1] at j1
    obtain ⟨x1, x2⟩ := hr.2.2 j j0 j1
    obtain ⟨y1, y2⟩ := hv j j0 j1
    rw [x1, x2, y1, y2]; exact ⟨rfl, rfl⟩
theorem sv_V0.ofD {a c : Int → Int} (hn0 : 0 ≤ n) (h0 : sv_w0 f f' k b (sp_dn a c n.toNat)) (hk : sv_V0 f k mi s) (h1 : ∀ j, 29 * s ≤ j → j < 29 * s + 3 → m' j = mi j) (hr : sp_rowD m' s b n v w) (ea : ∀ j, 0 ≤ j → j < n → a j = v j) (ec : ∀ j, 0 ≤ j → j < n → c j = w j) (hv : ∀ t : Nat, (t : Int) < n → a t ≠ c t → f' (k + 1) (sp_dn a c t) = t ∧ f' (k + 2) (sp_dn a c t) = c t) : sv_V0 f' k m' s := by
  obtain ⟨-, e0, e1, e2, e3, e4⟩ := h0
  have hd : ∀ j, 0 ≤ j → j ≤ n → sp_dn a c j.toNat = sp_dn v w j.toNat := fun j h0 h1 => sp_dn_congr (fun i x y => ea i x (by omega)) (fun i x y => ec i x (by omega))
  refine ⟨?_, ?_, ?_, ?_, ?_, fun j j0 j1 => ?_⟩
  · rw [e0, h1 _ (by omega) (by omega)]; exact hk.num
  · rw [e1, h1 _ (by omega) (by omega)]; exact hk.form
  · rw [e2, h1 _ (by omega) (by omega)]; exact hk.sum
  · rw [e3, hr.1]
  · rw [e4, hr.2.1]; exact hd n hn0 (Int.le_refl _)
  · rw [hr.2.1] at j1
    obtain ⟨t, a1, a2, a3, a4⟩ := sp_dn_hit v w n.toNat j j0 j1
    have ht : (t.toNat : Int) = t := by omega
    have hne : a (t.toNat : Int) ≠ c (t.toNat : Int) := by rw [ht, ea t a1 (by omega), ec t a1 (by omega)]; exact a3
    obtain ⟨y1, y2⟩ := hv t.toNat (by omega) hne
    obtain ⟨x1, x2⟩ := hr.2.2 t a1 (by omega) a3
    rw [hd t a1 (by omega), a4, ht] at y1 y2
    rw [a4] at x1 x2
    rw [x1, x2, y1, y2, ec t a1 (by omega)]
    exact ⟨rfl, rfl⟩
end SVROW
set_option maxRecDepth 100000 in
set_option maxHeartbeats 4000000 in
theorem c_X4_mendFollowers {X : sv_X} {S : sv_S} {f : sv_F} {r : sv_R} {g : sv_G} {V q d fo rs fi se pa sc : Nat} {kp fd : Int → Nat} {m : Int → Int} (hve : sv_K4 S r V q d fi se pa sc) (hmo : sv_K1 S r q kp) (hmv : sv_V1 f q kp m) (hre : sv_K2 S r d fo rs fd) (hw : sp_wt m) (hv2 : sv_V2 f rs fd m (m 580)) {sc2 tx vs : Nat} (hp : sv_sep V q fi se sc2 tx vs rs fd) (hg3 : m 582 ≤ 3) (x : Int) (hx : sv_in x) : sv_C X 2 MX4_mendFollowers 0 0 [sv_r V, sv_i x] S f r g (sv_qv (fun f' => sv_V1 f' q kp (sp_mdi m x (m 580).toNat) ∧ ∀ z, (z < q + 4 ∨ q + 64 ≤ z) → f' z = f z) S r g) := by
  refine sv_met (by decide) (by simp [lg_sl, sv_cv, va_rf, Value.category]) ?_
  refine sv_fr fun hin => ?_
  have hcc := hw.c
  have lp : ∀ (kk : Nat) (i : Nat) (f1 : sv_F), m 580 - (i : Int) < (kk : Int) → ((i : Int) ≤ m 580) → (∀ z, (z < q + 4 ∨ q + 64 ≤ z) → f1 z = f z) → (sv_V1 f1 q kp (sp_mdi m x i)) → sv_T X (sv_rm 2 0 0) MX4_mendFollowers (sv_Zm X 0 0 (sv_qv (fun f' => sv_V1 f' q kp (sp_mdi m x (m 580).toNat) ∧ ∀ z, (z < q + 4 ∨ q + 64 ≤ z) → f' z = f z) S r g)) 0 0 2 [some (sv_r V), some (sv_i x), some (sv_i (i : Nat)), none] [] S (f1) r g := by
    intro kk
    induction kk with
    | zero =>
      intro i f1 hkk h1 h3 h4
      exact absurd hkk (by omega)
    | succ kk ih =>
      intro i f1 hkk h1 h3 h4
      refine sv_fr fun hin1 => ?_
      obtain ⟨hrp, hrest⟩ := sp_mdi_rp (x := x) hw i h1
      refine sv_iload_n (i := 2) dX4_mendFollowers_2 rfl rfl ?_
      refine sv_aload_n (i := 0) dX4_mendFollowers_3 rfl rfl ?_
      refine sv_getR (kz := 0) flX4_10 dX4_mendFollowers_4 rfl rfl hve.lt hve.k hve.r0 ?_
      refine sv_getI (kz := 3) flX4_79 dX4_mendFollowers_7 rfl rfl hmo.lt hmo.k ?_
      rw [h4.size, hrp.c]
      refine sv_icmp_ge (tgt := 63) dX4_mendFollowers_10 (by decide) (by omega) (by omega) (fun h_10 => ?_) (fun h_10 => ?_)
      · refine sv_return dX4_mendFollowers_63 rfl ?_
        exact ⟨rfl, rfl, rfl, rfl, by rw [show (m 580).toNat = i by omega]; exact h4, h3⟩
      · refine sv_aload_n (i := 0) dX4_mendFollowers_13 rfl rfl ?_
        refine sv_getR (kz := 0) flX4_10 dX4_mendFollowers_14 rfl rfl hve.lt hve.k hve.r0 ?_
        refine sv_getR (kz := 6) flX4_89 dX4_mendFollowers_17 rfl rfl hmo.lt hmo.k hmo.r3 ?_
        refine sv_iload_n (i := 2) dX4_mendFollowers_20 rfl rfl ?_
        have hk := hmo.o (p := (i : Int)) (by omega) (by omega)
        have hkb := hmo.b (p := (i : Int)) (by omega) (by omega)
        have hkv := h4.o (s := (i : Int)) (by omega) (by rw [hrp.c]; omega)
        have hbse := hkv.base
        rw [hrest _ (by omega)] at hbse
        have hfrm := hkv.form
        rw [hrest _ (by omega)] at hfrm
        have hfr := hw.frm (s := (i : Int)) (by omega) (by omega)
        obtain ⟨v1, v2⟩ := hv2 (i : Int) (by omega) (by omega)
        have hsp := hp.2.2.1 (i : Int) (by omega) (by omega)
        have hrq := hp.2.1
        have hbb := hre.a (p := (i : Int)) (by omega) (by omega)
        have hri1 := sp_R_in hw (n := m (29 * (i : Int)))
        refine sv_aald (t := 0) (n := 20) dX4_mendFollowers_21 hmo.l3 (by decide) hmo.s3 (by omega) (hmo.e (p := (i : Int)) (by omega) (by omega)) ?_
        refine sv_astore_n (i := 3) dX4_mendFollowers_22 rfl (by decide) rfl ?_
        refine sv_aload_n (i := 3) dX4_mendFollowers_23 rfl rfl ?_
        refine sv_getI (kz := 3) flX4_198 dX4_mendFollowers_24 rfl rfl hk.lt hk.k ?_
        rw [hbse]
        refine sv_iload_n (i := 1) dX4_mendFollowers_27 rfl rfl ?_
        refine sv_icmp_ne (tgt := 57) dX4_mendFollowers_28 (by decide) (hbse ▸ hin1 _ _) hx (fun h_28 => ?_) (fun h_28 => ?_)
        · refine sv_iinc dX4_mendFollowers_57 rfl (by decide) rfl ?_
          refine sv_goto (tgt := 2) dX4_mendFollowers_60 (by decide) ?_
          first
          | (have hst : sp_mdi m x (i + 1) = sp_ww (sp_mdi m x i) i (sp_n m i) 12 (sp_V m (m (29 * (i : Int)))) := if_pos ⟨by assumption, by assumption⟩
             obtain ⟨g1, g2⟩ := hf2
             rw [hfrm] at g1 g2
             have hR : sp_R m (m (29 * (i : Int))) = -1 := by assumption
             have hn12 : sp_n m i ≤ 12 := by unfold sp_n; omega
             refine sv_wk (ih (i + 1) f2 (by omega) (by omega) (fun z hz => by rw [g1.1 z (by omega) (by omega) (by omega)]; exact h3 z hz) ?_) (by simp [sv_sub, sv_ent, sv_lng]) rfl
             rw [hst]
             refine sv_V1.row1 hmo h4 (hrp.wt hw) (by omega) (by rw [hrp.c]; omega) (fun z z0 _ _ => g1.1 z (by omega) (by omega) (by omega)) (fun j _ _ j1 => sp_ww_out (by omega)) (sv_V0.ofW g1 hkv (fun j j0 j1 => sp_ww_out (by omega)) (sp_ww_row hn12) (fun j j0 j1 => ?_)) (by rw [hrp.1 582 (by omega) (by omega)]; exact hg3)
             obtain ⟨y1, y2⟩ := g2 j j0 j1
             refine ⟨y1, ?_⟩
             rw [y2, h3 _ (by omega)]
             exact v2 hR j j0 j1)
          | (have hst : sp_mdi m x (i + 1) = sp_mdi m x i := if_neg (by omega)
             exact sv_wk (ih (i + 1) f1 (by omega) (by omega) h3 (by rw [hst]; exact h4)) (by simp [sv_sub, sv_ent, sv_lng]) rfl)
        · refine sv_aload_n (i := 0) dX4_mendFollowers_31 rfl rfl ?_
          refine sv_getR (kz := 4) flX4_34 dX4_mendFollowers_32 rfl rfl hve.lt hve.k hve.r4 ?_
          refine sv_getR (kz := 1) flX4_127 dX4_mendFollowers_35 rfl rfl hre.lt hre.k hre.r2 ?_
          refine sv_iload_n (i := 2) dX4_mendFollowers_38 rfl rfl ?_
          refine sv_iald dX4_mendFollowers_39 hre.l2 hre.s2 (by omega) ?_
          rw [h3 rs (by omega), v1]
          refine sv_iconst dX4_mendFollowers_40 ?_
          refine sv_icmp_ne (tgt := 57) dX4_mendFollowers_41 (by decide) (by omega) (by decide) (fun h_41 => ?_) (fun h_41 => ?_)
          · refine sv_iinc dX4_mendFollowers_57 rfl (by decide) rfl ?_
            refine sv_goto (tgt := 2) dX4_mendFollowers_60 (by decide) ?_
            first
            | (have hst : sp_mdi m x (i + 1) = sp_ww (sp_mdi m x i) i (sp_n m i) 12 (sp_V m (m (29 * (i : Int)))) := if_pos ⟨by assumption, by assumption⟩
               obtain ⟨g1, g2⟩ := hf2
               rw [hfrm] at g1 g2
               have hR : sp_R m (m (29 * (i : Int))) = -1 := by assumption
               have hn12 : sp_n m i ≤ 12 := by unfold sp_n; omega
               refine sv_wk (ih (i + 1) f2 (by omega) (by omega) (fun z hz => by rw [g1.1 z (by omega) (by omega) (by omega)]; exact h3 z hz) ?_) (by simp [sv_sub, sv_ent, sv_lng]) rfl
               rw [hst]
               refine sv_V1.row1 hmo h4 (hrp.wt hw) (by omega) (by rw [hrp.c]; omega) (fun z z0 _ _ => g1.1 z (by omega) (by omega) (by omega)) (fun j _ _ j1 => sp_ww_out (by omega)) (sv_V0.ofW g1 hkv (fun j j0 j1 => sp_ww_out (by omega)) (sp_ww_row hn12) (fun j j0 j1 => ?_)) (by rw [hrp.1 582 (by omega) (by omega)]; exact hg3)
               obtain ⟨y1, y2⟩ := g2 j j0 j1
               refine ⟨y1, ?_⟩
               rw [y2, h3 _ (by omega)]
               exact v2 hR j j0 j1)
            | (have hst : sp_mdi m x (i + 1) = sp_mdi m x i := if_neg (by omega)
               exact sv_wk (ih (i + 1) f1 (by omega) (by omega) h3 (by rw [hst]; exact h4)) (by simp [sv_sub, sv_ent, sv_lng]) rfl)
          · refine sv_aload_n (i := 3) dX4_mendFollowers_44 rfl rfl ?_
            refine sv_aload_n (i := 0) dX4_mendFollowers_45 rfl rfl ?_
            refine sv_getR (kz := 4) flX4_34 dX4_mendFollowers_46 rfl rfl hve.lt hve.k hve.r4 ?_
            refine sv_getR (kz := 0) flX4_201 dX4_mendFollowers_49 rfl rfl hre.lt hre.k hre.r1 ?_
            refine sv_iload_n (i := 2) dX4_mendFollowers_52 rfl rfl ?_
            refine sv_aald (t := 2) (n := 20) dX4_mendFollowers_53 hre.l1 (by decide) hre.s1 (by omega) (hre.e (p := (i : Int)) (by omega) (by omega)) ?_
            refine sv_vv0 (As := [_]) clX4_109 dX4_mendFollowers_54 ⟨_, rfl, rfl⟩ (by decide) rfl (Nat.le_of_ble_eq_true rfl) (by decide) (by decide) hk.lt hk.k (c_X0_makeWhole hk hbb (by omega) (by omega)) (fun f2 hf2 => ?_)
            refine sv_iinc dX4_mendFollowers_57 rfl (by decide) rfl ?_
            refine sv_goto (tgt := 2) dX4_mendFollowers_60 (by decide) ?_
            first
            | (have hst : sp_mdi m x (i + 1) = sp_ww (sp_mdi m x i) i (sp_n m i) 12 (sp_V m (m (29 * (i : Int)))) := if_pos ⟨by assumption, by assumption⟩
               obtain ⟨g1, g2⟩ := hf2
               rw [hfrm] at g1 g2
               have hR : sp_R m (m (29 * (i : Int))) = -1 := by assumption
               have hn12 : sp_n m i ≤ 12 := by unfold sp_n; omega
               refine sv_wk (ih (i + 1) f2 (by omega) (by omega) (fun z hz => by rw [g1.1 z (by omega) (by omega) (by omega)]; exact h3 z hz) ?_) (by simp [sv_sub, sv_ent, sv_lng]) rfl
               rw [hst]
               refine sv_V1.row1 hmo h4 (hrp.wt hw) (by omega) (by rw [hrp.c]; omega) (fun z z0 _ _ => g1.1 z (by omega) (by omega) (by omega)) (fun j _ _ j1 => sp_ww_out (by omega)) (sv_V0.ofW g1 hkv (fun j j0 j1 => sp_ww_out (by omega)) (sp_ww_row hn12) (fun j j0 j1 => ?_)) (by rw [hrp.1 582 (by omega) (by omega)]; exact hg3)
               obtain ⟨y1, y2⟩ := g2 j j0 j1
               refine ⟨y1, ?_⟩
               rw [y2, h3 _ (by omega)]
               exact v2 hR j j0 j1)
            | (have hst : sp_mdi m x (i + 1) = sp_mdi m x i := if_neg (by omega)
               exact sv_wk (ih (i + 1) f1 (by omega) (by omega) h3 (by rw [hst]; exact h4)) (by simp [sv_sub, sv_ent, sv_lng]) rfl)
  refine sv_iconst dX4_mendFollowers_0 ?_
  refine sv_istore_n (i := 2) dX4_mendFollowers_1 rfl (by decide) rfl ?_
  exact lp (m 580 + 1).toNat 0 f (by omega) (by omega) (fun _ _ => rfl) hmv
/-- the Kepts' order when the one at s has gone behind -/
def sp_rmk (kp : Int → Nat) (s c : Int) : Int → Nat := fun p => if p < s then kp p else if p < c - 1 then kp (p + 1) else if p = c - 1 then kp s else kp p
theorem sv_K1.cg {S : sv_S} {r r' : sv_R} {q : Nat} {kp : Int → Nat} (h : sv_K1 S r q kp) (hr : ∀ x, q ≤ x → x < q + 64 → r' x = r x) : sv_K1 S r' q kp := by
  obtain ⟨h1, h2, h3, h4, h5, h6, h7⟩ := h
  unfold sv_K1
  rw [hr q (by omega) (by omega), hr (q + 3) (by omega) (by omega)]
  refine ⟨h1, h2, h3, h4, h5, fun p a b => ⟨(h6 p a b).1, (h6 p a b).2.1, ?_⟩, h7⟩
  have := (h6 p a b).2
  unfold sv_K0 at this ⊢
  rw [hr (kp p) (by omega) (by omega)]
  exact this.2
theorem sv_K1.rm {S : sv_S} {r r' : sv_R} {q : Nat} {kp : Int → Nat} {s c : Int} (h : sv_K1 S r q kp) (hs : 0 ≤ s ∧ s < c ∧ c ≤ 20) (hr : ∀ x, x ≠ q + 3 → r' x = r x) (he : ∀ p, 0 ≤ p → p < 20 → r' (q + 3) p = some (sp_rmk kp s c p)) : sv_K1 S r' q (sp_rmk kp s c) := by
  obtain ⟨h1, h2, h3, h4, h5, h6, h7⟩ := h
  unfold sv_K1
  rw [hr q (by omega)]
  have hi : ∀ p, 0 ≤ p → p < 20 → ∃ p', 0 ≤ p' ∧ p' < 20 ∧ sp_rmk kp s c p = kp p' ∧ p' = (if p < s then p else if p < c - 1 then p + 1 else if p = c - 1 then s else p) := by
    intro p p0 p1
    refine ⟨_, ?_, ?_, ?_, rfl⟩
    · split <;> (try split) <;> (try split) <;> omega
    · split <;> (try split) <;> (try split) <;> omega
    · unfold sp_rmk; split
      · rfl
      · split
        · rfl
        · split <;> rfl
  refine ⟨h1, h2, h3, h4, h5, fun p a b => ⟨he p a b, ?_⟩, fun p p' a b a' b' hn => ?_⟩
  · obtain ⟨t, t0, t1, t2, -⟩ := hi p a b
    rw [t2]
    obtain ⟨-, x2, x3⟩ := h6 t t0 t1
    refine ⟨x2, ?_⟩
    unfold sv_K0 at x3 ⊢
    rw [hr (kp t) (by omega)]
    exact x3
  · obtain ⟨t, t0, t1, t2, t3⟩ := hi p a b
    obtain ⟨t', t0', t1', t2', t3'⟩ := hi p' a' b'
    rw [t2, t2']
    refine h7 t t' t0 t1 t0' t1' ?_
    rw [t3, t3']
    split <;> split <;> (try split) <;> (try split) <;> (try split) <;> (try split) <;> omega
set_option maxRecDepth 100000 in
set_option maxHeartbeats 4000000 in
theorem c_X1_removePlace {X : sv_X} {S : sv_S} {f : sv_F} {r : sv_R} {g : sv_G} {q : Nat} {kp : Int → Nat} (hmo : sv_K1 S r q kp) (s c : Int) (hs : 0 ≤ s ∧ s < c ∧ c ≤ 20) (hc3 : f q 3 = c) : sv_C X 0 MX1_removePlace 0 0 [sv_r q, sv_i s] S f r g (sv_qh (fun f' r' => f' = sv_u f q 3 (c - 1) ∧ (∀ x, x ≠ q + 3 → r' x = r x) ∧ sv_K1 S r' q (sp_rmk kp s c)) S g) := by
  refine sv_met (by decide) (by simp [lg_sl, sv_cv, va_rf, Value.category]) ?_
  refine sv_fr fun hin => ?_
  have lp : ∀ (kk : Nat) (i : Int) (r1 : sv_R), c - i < (kk : Int) → (s + 1 ≤ i ∧ i ≤ c) → (∀ x, x ≠ q + 3 → r1 x = r x) → (∀ y, 0 ≤ y → y < s → r1 (q + 3) y = some (kp y)) → (∀ y, s ≤ y → y < i - 1 → r1 (q + 3) y = some (kp (y + 1))) → (∀ y, i - 1 ≤ y → y < 20 → r1 (q + 3) y = some (kp y)) → sv_T X (sv_rm 0 0 0) MX1_removePlace (sv_Zm X 0 0 (sv_qh (fun f' r' => f' = sv_u f q 3 (c - 1) ∧ (∀ x, x ≠ q + 3 → r' x = r x) ∧ sv_K1 S r' q (sp_rmk kp s c)) S g)) 0 0 11 [some (sv_r q), some (sv_i s), some (sv_r (kp s)), some (sv_i i)] [] S (f) r1 g := by
    intro kk
    induction kk with
    | zero =>
      intro i r1 hkk h2 h3 h6 h4 h5
      exact absurd hkk (by omega)
    | succ kk ih =>
      intro i r1 hkk h2 h3 h6 h4 h5
      have hq6 : r1 q 6 = some (q + 3) := by rw [h3 q (by omega)]; exact hmo.r3
      have hxo := hmo.o (p := s) (by omega) (by omega)
      refine sv_iload_n (i := 3) dX1_removePlace_11 rfl rfl ?_
      refine sv_aload_n (i := 0) dX1_removePlace_12 rfl rfl ?_
      refine sv_getI (kz := 3) flX1_21 dX1_removePlace_13 rfl rfl hmo.lt hmo.k ?_
      rw [hc3]
      refine sv_icmp_ge (tgt := 39) dX1_removePlace_16 (by decide) (by unfold sv_in; omega) (by unfold sv_in; omega) (fun h_16 => ?_) (fun h_16 => ?_)
      · refine sv_aload_n (i := 0) dX1_removePlace_39 rfl rfl ?_
        refine sv_dup dX1_removePlace_40 rfl ?_
        refine sv_getI (kz := 3) flX1_21 dX1_removePlace_41 rfl rfl hmo.lt hmo.k ?_
        rw [hc3]
        refine sv_iconst dX1_removePlace_44 ?_
        refine sv_isub dX1_removePlace_45 ?_
        refine sv_putI (kz := 3) flX1_21 dX1_removePlace_46 (Or.inl rfl) rfl rfl hmo.lt hmo.k (by unfold sv_in; omega) ?_
        refine sv_aload_n (i := 0) dX1_removePlace_49 rfl rfl ?_
        refine sv_getR (kz := 6) flX1_33 dX1_removePlace_50 rfl rfl hmo.lt hmo.k hq6 ?_
        refine sv_aload_n (i := 0) dX1_removePlace_53 rfl rfl ?_
        refine sv_getI (kz := 3) flX1_21 dX1_removePlace_54 rfl rfl hmo.lt hmo.k ?_
        rw [show sv_u f q 3 (c - 1) q 3 = c - 1 by simp [sv_u]]
        refine sv_aload_n (i := 2) dX1_removePlace_57 rfl rfl ?_
        refine sv_aast (t := 0) dX1_removePlace_58 hmo.l3 (by decide) rfl hmo.s3 (by omega) hxo.lt hxo.k ?_
        refine sv_return dX1_removePlace_59 rfl ?_
        have hrk : ∀ x, x ≠ q + 3 → sv_ur r1 (q + 3) (c - 1) (some (kp s)) x = r x := fun x hx2 => by rw [sv_ur_ne hx2]; exact h3 x hx2
        refine ⟨rfl, rfl, rfl, rfl, hrk, hmo.rm hs hrk fun p p0 p1 => ?_⟩
        show (if q + 3 = q + 3 ∧ p = c - 1 then _ else r1 (q + 3) p) = _
        unfold sp_rmk
        by_cases e : p = c - 1
        · rw [if_pos ⟨rfl, e⟩, if_neg (by omega), if_neg (by omega), if_pos e]
        · rw [if_neg (by omega)]
          by_cases e2 : p < s
          · rw [if_pos e2]; exact h6 p p0 e2
          · rw [if_neg e2]
            by_cases e3 : p < c - 1
            · rw [if_pos e3]; exact h4 p (by omega) (by omega)
            · rw [if_neg e3, if_neg e]; exact h5 p (by omega) p1
      · refine sv_aload_n (i := 0) dX1_removePlace_19 rfl rfl ?_
        refine sv_getR (kz := 6) flX1_33 dX1_removePlace_20 rfl rfl hmo.lt hmo.k hq6 ?_
        refine sv_iload_n (i := 3) dX1_removePlace_23 rfl rfl ?_
        refine sv_iconst dX1_removePlace_24 ?_
        refine sv_isub dX1_removePlace_25 ?_
        refine sv_aload_n (i := 0) dX1_removePlace_26 rfl rfl ?_
        refine sv_getR (kz := 6) flX1_33 dX1_removePlace_27 rfl rfl hmo.lt hmo.k hq6 ?_
        refine sv_iload_n (i := 3) dX1_removePlace_30 rfl rfl ?_
        have hx := hmo.o (p := i) (by omega) (by omega)
        refine sv_aald (t := 0) (n := 20) dX1_removePlace_31 hmo.l3 (by decide) hmo.s3 (by omega) (h5 i (by omega) (by omega)) ?_
        refine sv_aast (t := 0) dX1_removePlace_32 hmo.l3 (by decide) rfl hmo.s3 (by omega) hx.lt hx.k ?_
        refine sv_iinc dX1_removePlace_33 rfl (by decide) rfl ?_
        refine sv_goto (tgt := 11) dX1_removePlace_36 (by decide) ?_
        refine ih (i + 1) _ (by omega) (by omega) ?_ ?_ ?_ ?_
        · intro x hx2; rw [sv_ur_ne hx2]; exact h3 x hx2
        · intro y y0 y1
          show (if q + 3 = q + 3 ∧ y = i - 1 then _ else r1 (q + 3) y) = _
          rw [if_neg (by omega)]; exact h6 y y0 y1
        · intro y y0 y1
          by_cases hy : y = i - 1
          · subst hy; simp [sv_ur]
          · show (if q + 3 = q + 3 ∧ y = i - 1 then _ else r1 (q + 3) y) = _
            rw [if_neg (by omega)]; exact h4 y y0 (by omega)
        · intro y y0 y1
          show (if q + 3 = q + 3 ∧ y = i - 1 then _ else r1 (q + 3) y) = _
          rw [if_neg (by omega)]; exact h5 y (by omega) y1
  refine sv_aload_n (i := 0) dX1_removePlace_0 rfl rfl ?_
  have hq6 := hmo.r3
  refine sv_getR (kz := 6) flX1_33 dX1_removePlace_1 rfl rfl hmo.lt hmo.k hq6 ?_
  refine sv_iload_n (i := 1) dX1_removePlace_4 rfl rfl ?_
  have hxo := hmo.o (p := s) (by omega) (by omega)
  have hq6 := hmo.r3
  refine sv_aald (t := 0) (n := 20) dX1_removePlace_5 hmo.l3 (by decide) hmo.s3 (by omega) (hmo.e (p := s) (by omega) (by omega)) ?_
  refine sv_astore_n (i := 2) dX1_removePlace_6 rfl (by decide) rfl ?_
  refine sv_iload_n (i := 1) dX1_removePlace_7 rfl rfl ?_
  refine sv_iconst dX1_removePlace_8 ?_
  refine sv_iadd dX1_removePlace_9 ?_
  refine sv_istore_n (i := 3) dX1_removePlace_10 rfl (by decide) rfl ?_
  exact lp (c + 1).toNat (s + 1) r (by omega) (by omega) (fun _ _ => rfl) (fun y a b => hmo.e a (by omega)) (fun y a b => by omega) (fun y a b => hmo.e (by omega) b)
