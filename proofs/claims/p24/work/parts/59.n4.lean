theorem sv_V0.congr {f f' : sv_F} {k : Nat} {m : Int → Int} {s : Int} (h : sv_V0 f k m s) (h0 : f' k = f k) (h1 : f' (k + 1) = f (k + 1)) (h2 : f' (k + 2) = f (k + 2)) : sv_V0 f' k m s := by
  unfold sv_V0 at h ⊢
  rw [h0, h1, h2]
  exact h
set_option maxRecDepth 100000 in
set_option maxHeartbeats 4000000 in
theorem c_X1_copyFrom {X : sv_X} {S : sv_S} {f : sv_F} {r : sv_R} {g : sv_G} {q p : Nat} {kp kp2 : Int → Nat} {m : Int → Int} (hmo : sv_K1 S r q kp) (ho2 : sv_K1 S r p kp2) (hmv : sv_V1 f p kp2 m) (hd : q + 64 ≤ p ∨ p + 64 ≤ q) (hw : sp_wt m) (hg : 1 ≤ m 582 ∧ m 582 ≤ 3) : sv_C X 2 MX1_copyFrom 0 0 [sv_r q, sv_r p] S f r g (sv_qv (fun f' => (∀ x, (x < q ∨ q + 64 ≤ x) → f' x = f x) ∧ sv_V1 f' q kp m) S r g) := by
  refine sv_met (by decide) (by simp [lg_sl, sv_cv, va_rf, Value.category]) ?_
  refine sv_fr fun hin => ?_
  have hcc := hw.c
  have lp : ∀ (kk : Nat) (i : Int) (f1 : sv_F), m 580 - i < (kk : Int) → (0 ≤ i ∧ i ≤ m 580) → (∀ x, (x < q ∨ q + 64 ≤ x) → f1 x = f x) → (f1 q 0 = m 582) → (f1 q 1 = m 595) → (f1 q 2 = m 581) → (f1 q 3 = m 580) → (∀ j, 0 ≤ j → j < 12 → f1 (q + 1) j = f (p + 1) j) → (f1 (q + 2) 0 = m 596) → (f1 (q + 2) 1 = m 597) → (∀ s, 0 ≤ s → s < i → sv_V0 f1 (kp s) m s) → sv_T X (sv_rm 2 0 0) MX1_copyFrom (sv_Zm X 0 0 (sv_qv (fun f' => (∀ x, (x < q ∨ q + 64 ≤ x) → f' x = f x) ∧ sv_V1 f' q kp m) S r g)) 0 0 63 [some (sv_r q), some (sv_r p), some (sv_i i)] [] S (f1) r g := by
    intro kk
    induction kk with
    | zero =>
      intro i f1 hkk h1 h2 s0 s1 s2 s3 s4 s5 s6 h3
      exact absurd hkk (by omega)
    | succ kk ih =>
      intro i f1 hkk h1 h2 s0 s1 s2 s3 s4 s5 s6 h3
      refine sv_iload_n (i := 2) dX1_copyFrom_63 rfl rfl ?_
      refine sv_aload_n (i := 0) dX1_copyFrom_64 rfl rfl ?_
      refine sv_getI (kz := 3) flX1_21 dX1_copyFrom_65 rfl rfl hmo.lt hmo.k ?_
      rw [s3]
      refine sv_icmp_ge (tgt := 92) dX1_copyFrom_68 (by decide) (by omega) (by omega) (fun h_68 => ?_) (fun h_68 => ?_)
      · refine sv_return dX1_copyFrom_92 rfl ?_
        exact ⟨rfl, rfl, rfl, rfl, h2, s0, s1, s2, s3, fun j j0 j1 => by rw [s4 j j0 (by omega)]; exact hmv.val j0 j1, s5, s6, fun s z0 z1 => h3 s z0 (by omega)⟩
      · have hk := hmo.o (p := i) (by omega) (by omega)
        have hj := ho2.o (p := i) (by omega) (by omega)
        have hkb := hmo.b (p := i) (by omega) (by omega)
        have hjb := ho2.b (p := i) (by omega) (by omega)
        refine sv_aload_n (i := 0) dX1_copyFrom_71 rfl rfl ?_
        refine sv_getR (kz := 6) flX1_33 dX1_copyFrom_72 rfl rfl hmo.lt hmo.k hmo.r3 ?_
        refine sv_iload_n (i := 2) dX1_copyFrom_75 rfl rfl ?_
        refine sv_aald (t := 0) (n := 20) dX1_copyFrom_76 hmo.l3 (by decide) hmo.s3 (by omega) (hmo.e (p := i) (by omega) (by omega)) ?_
        refine sv_aload_n (i := 1) dX1_copyFrom_77 rfl rfl ?_
        refine sv_getR (kz := 6) flX1_33 dX1_copyFrom_78 rfl rfl ho2.lt ho2.k ho2.r3 ?_
        refine sv_iload_n (i := 2) dX1_copyFrom_81 rfl rfl ?_
        refine sv_aald (t := 0) (n := 20) dX1_copyFrom_82 ho2.l3 (by decide) ho2.s3 (by omega) (ho2.e (p := i) (by omega) (by omega)) ?_
        refine sv_vv0 (As := [_]) clX1_44 dX1_copyFrom_83 ⟨_, rfl, rfl⟩ (by decide) rfl (Nat.le_of_ble_eq_true rfl) (by decide) (by decide) hk.lt hk.k (c_X0_copyKept hk hj (by omega)) (fun f2 hf2 => ?_)
        refine sv_iinc dX1_copyFrom_86 rfl (by decide) rfl ?_
        refine sv_goto (tgt := 63) dX1_copyFrom_89 (by decide) ?_
        obtain ⟨e1, e2, e3⟩ := hf2
        have hv := hmv.o (s := i) (by omega) (by omega)
        have hmy := hw.many (s := i) (by omega) (by omega)
        have o1 : f1 (kp2 i) = f (kp2 i) := h2 _ (by omega)
        have o2 : f1 (kp2 i + 1) = f (kp2 i + 1) := h2 _ (by omega)
        have o3 : f1 (kp2 i + 2) = f (kp2 i + 2) := h2 _ (by omega)
        have q0 : f2 q = f1 q := e1 q (by omega) (by omega) (by omega)
        have q1 : f2 (q + 1) = f1 (q + 1) := e1 _ (by omega) (by omega) (by omega)
        have q2 : f2 (q + 2) = f1 (q + 2) := e1 _ (by omega) (by omega) (by omega)
        refine ih (i + 1) f2 (by omega) (by omega) ?_ (by rw [q0]; exact s0) (by rw [q0]; exact s1) (by rw [q0]; exact s2) (by rw [q0]; exact s3) (by rw [q1]; exact s4) (by rw [q2]; exact s5) (by rw [q2]; exact s6) ?_
        · intro x hx
          rw [e1 x (by omega) (by omega) (by omega)]
          exact h2 x hx
        · intro s z0 z1
          by_cases hs : s = i
          · subst hs
            refine ⟨?_, ?_, ?_, ?_, ?_, fun j j0 j1 => ⟨?_, ?_⟩⟩
            · rw [e2 0 (by omega) (by omega), o1]; exact hv.num
            · rw [e2 1 (by omega) (by omega), o1]; exact hv.form
            · rw [e2 2 (by omega) (by omega), o1]; exact hv.sum
            · rw [e2 3 (by omega) (by omega), o1]; exact hv.base
            · rw [e2 4 (by omega) (by omega), o1]; exact hv.size
            · rw [(e3 j j0 (by omega)).1, o2]; exact hv.idx j0 j1
            · rw [(e3 j j0 (by omega)).2, o3]; exact hv.val j0 j1
          · have hdd := hmo.d (p := s) (p' := i) (by omega) (by omega) (by omega) (by omega) hs
            exact (h3 s z0 (by omega)).congr (e1 _ (by omega) (by omega) (by omega)) (e1 _ (by omega) (by omega) (by omega)) (e1 _ (by omega) (by omega) (by omega))
  refine sv_aload_n (i := 0) dX1_copyFrom_0 rfl rfl ?_
  refine sv_aload_n (i := 1) dX1_copyFrom_1 rfl rfl ?_
  refine sv_getI (kz := 0) flX1_9 dX1_copyFrom_2 rfl rfl ho2.lt ho2.k ?_
  refine sv_putI (kz := 0) flX1_9 dX1_copyFrom_5 (Or.inl rfl) rfl rfl hmo.lt hmo.k (hin _ _) ?_
  refine sv_aload_n (i := 0) dX1_copyFrom_8 rfl rfl ?_
  refine sv_aload_n (i := 1) dX1_copyFrom_9 rfl rfl ?_
  refine sv_getI (kz := 1) flX1_15 dX1_copyFrom_10 rfl rfl ho2.lt ho2.k ?_
  refine sv_putI (kz := 1) flX1_15 dX1_copyFrom_13 (Or.inl rfl) rfl rfl hmo.lt hmo.k (by simp [sv_u, show p ≠ q by omega]; exact hin _ _) ?_
  refine sv_aload_n (i := 0) dX1_copyFrom_16 rfl rfl ?_
  refine sv_aload_n (i := 1) dX1_copyFrom_17 rfl rfl ?_
  refine sv_getI (kz := 2) flX1_18 dX1_copyFrom_18 rfl rfl ho2.lt ho2.k ?_
  refine sv_putI (kz := 2) flX1_18 dX1_copyFrom_21 (Or.inl rfl) rfl rfl hmo.lt hmo.k (by simp [sv_u, show p ≠ q by omega]; exact hin _ _) ?_
  refine sv_aload_n (i := 0) dX1_copyFrom_24 rfl rfl ?_
  refine sv_aload_n (i := 1) dX1_copyFrom_25 rfl rfl ?_
  refine sv_getI (kz := 3) flX1_21 dX1_copyFrom_26 rfl rfl ho2.lt ho2.k ?_
  refine sv_putI (kz := 3) flX1_21 dX1_copyFrom_29 (Or.inl rfl) rfl rfl hmo.lt hmo.k (by simp [sv_u, show p ≠ q by omega]; exact hin _ _) ?_
  refine sv_aload_n (i := 1) dX1_copyFrom_32 rfl rfl ?_
  refine sv_getR (kz := 4) flX1_24 dX1_copyFrom_33 rfl rfl ho2.lt ho2.k ho2.r1 ?_
  refine sv_iconst dX1_copyFrom_36 ?_
  refine sv_aload_n (i := 0) dX1_copyFrom_37 rfl rfl ?_
  refine sv_getR (kz := 4) flX1_24 dX1_copyFrom_38 rfl rfl hmo.lt hmo.k hmo.r1 ?_
  refine sv_iconst dX1_copyFrom_41 ?_
  refine sv_bipush dX1_copyFrom_42 (by decide) ?_
  refine sv_copy (List.mem_of_getElem? (i := 258) (by decide +kernel)) sv_copyw ho2.l1 ho2.s1 hmo.l1 hmo.s1 (by decide) (Nat.le_of_ble_eq_true rfl) (by decide) dX1_copyFrom_44 ?_
  refine sv_aload_n (i := 1) dX1_copyFrom_47 rfl rfl ?_
  refine sv_getR (kz := 5) flX1_28 dX1_copyFrom_48 rfl rfl ho2.lt ho2.k ho2.r2 ?_
  refine sv_iconst dX1_copyFrom_51 ?_
  refine sv_aload_n (i := 0) dX1_copyFrom_52 rfl rfl ?_
  refine sv_getR (kz := 5) flX1_28 dX1_copyFrom_53 rfl rfl hmo.lt hmo.k hmo.r2 ?_
  refine sv_iconst dX1_copyFrom_56 ?_
  refine sv_iconst dX1_copyFrom_57 ?_
  refine sv_copy (List.mem_of_getElem? (i := 258) (by decide +kernel)) sv_copyw ho2.l2 ho2.s2 hmo.l2 hmo.s2 (by decide) (Nat.le_of_ble_eq_true rfl) (by decide) dX1_copyFrom_58 ?_
  refine sv_iconst dX1_copyFrom_61 ?_
  refine sv_istore_n (i := 2) dX1_copyFrom_62 rfl (by decide) rfl ?_
  refine lp (m 580 + 1).toNat 0 _ (by omega) (by omega) ?_ ?_ ?_ ?_ ?_ ?_ ?_ ?_ (fun s a b => by omega)
  · intro x hx
    funext y
    simp [sv_u, sv_cp, show x ≠ q by omega, show x ≠ q + 1 by omega, show x ≠ q + 2 by omega]
  · simp [sv_u, sv_cp]; exact hmv.form
  · simp [sv_u, sv_cp, show p ≠ q by omega]; exact hmv.orig
  · simp [sv_u, sv_cp, show p ≠ q by omega]; exact hmv.came
  · simp [sv_u, sv_cp, show p ≠ q by omega]; exact hmv.size
  · intro j j0 j1
    simp [sv_u, sv_cp, show p + 1 ≠ q by omega, j0, j1]
  · simp [sv_u, sv_cp, show p + 2 ≠ q by omega, show p + 2 ≠ q + 1 by omega, show p ≠ q by omega]; exact hmv.lim
  · simp [sv_u, sv_cp, show p + 2 ≠ q by omega, show p + 2 ≠ q + 1 by omega, show p ≠ q by omega]; exact hmv.ris
