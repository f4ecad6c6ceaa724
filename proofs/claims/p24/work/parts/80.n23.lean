/-- contracts whose references may change -/
def sv_qh (P : sv_F → sv_R → Prop) (S : sv_S) (g : sv_G) : sv_Q := fun rv' S' f' r' g' => rv' = none ∧ S' = S ∧ g' = g ∧ P f' r'
def sv_qk (P : Int → sv_F → sv_R → Prop) (S : sv_S) (g : sv_G) : sv_Q := fun rv' S' f' r' g' => ∃ a, rv' = some (sv_i a) ∧ S' = S ∧ g' = g ∧ P a f' r'
section SVQH
variable {X : sv_X} {R : Room} {M : sv_M} {Z : sv_Z} {kc ks : Nat} {pc : Nat} {ls : sv_L} {st : List sv_V} {S : sv_S} {f : sv_F} {r : sv_R} {g : sv_G}
theorem sv_vh0 {M' : sv_M} {idx d i ci n : Nat} {As : List sv_V} {P : sv_F → sv_R → Prop} (hl : sv_cV M.1.cls idx M' n) (hd : decode M.2.1 pc = .ok (.invokevirtual idx, 3)) (hcl : ∃ q, vwCl[ci]? = some q ∧ q.1 = M'.1.cls) (hci : ci < 6) (hn : As.length = n) (hst : 2 * st.length ≤ 8) (hR : d + 1 ≤ R.frames ∧ 8 + (M'.2.2.1 + 11) + 36 * d ≤ R.locals) (hc : kc ≤ R.cells ∧ ks ≤ R.slots) (hi : i < S.1) (hk : (S.2 i).1 = ci)
    (hM : sv_C X d M' 0 0 (sv_r i :: As) S f r g (sv_qh P S g)) (kk : ∀ f' r', P f' r' → sv_T X R M Z kc ks (pc + 3) ls st S f' r' g) : sv_T X R M Z kc ks pc ls (As.reverse ++ sv_r i :: st) S f r g := by
  refine sv_callV hl hM hR hc hi hk hcl hci hn hst hd fun rv S' f' r' g' hq => ?_
  obtain ⟨rfl, rfl, rfl, h⟩ := hq
  exact kk f' r' h
theorem sv_vk0 {M' : sv_M} {idx d i ci n : Nat} {As : List sv_V} {P : Int → sv_F → sv_R → Prop} (hl : sv_cV M.1.cls idx M' n) (hd : decode M.2.1 pc = .ok (.invokevirtual idx, 3)) (hcl : ∃ q, vwCl[ci]? = some q ∧ q.1 = M'.1.cls) (hci : ci < 6) (hn : As.length = n) (hst : 2 * st.length ≤ 8) (hR : d + 1 ≤ R.frames ∧ 8 + (M'.2.2.1 + 11) + 36 * d ≤ R.locals) (hc : kc ≤ R.cells ∧ ks ≤ R.slots) (hi : i < S.1) (hk : (S.2 i).1 = ci)
    (hM : sv_C X d M' 0 0 (sv_r i :: As) S f r g (sv_qk P S g)) (kk : ∀ a f' r', P a f' r' → sv_T X R M Z kc ks (pc + 3) ls (sv_i a :: st) S f' r' g) : sv_T X R M Z kc ks pc ls (As.reverse ++ sv_r i :: st) S f r g := by
  refine sv_callV hl hM hR hc hi hk hcl hci hn hst hd fun rv S' f' r' g' hq => ?_
  obtain ⟨a, rfl, rfl, rfl, h⟩ := hq
  exact kk a f' r' h
end SVQH
/-- only the history's row of references has changed -/
def sv_rk (S : sv_S) (r r' : sv_R) : Prop := ∀ x, (S.2 x).1 ≠ 9 → r' x = r x
/-- the history: its Moments and where they stand -/
def sv_HI (S : sv_S) (r : sv_R) (V q fi se sc tx vs rs : Nat) (fd : Int → Nat) (pa : Nat) (mp : Int → Nat) (kq : Int → Int → Nat) : Prop :=
  (∀ i, 0 ≤ i → i < 6 → r pa i = some (mp i) ∧ sv_K1 S r (mp i) (kq i) ∧ (mp i + 64 ≤ q ∨ q + 64 ≤ mp i) ∧ (∀ x, (x = V ∨ x = sc ∨ x = tx ∨ x = vs ∨ x = fi ∨ x = se ∨ x = rs) → (x < mp i ∨ mp i + 64 ≤ x)) ∧ ∀ p, 0 ≤ p → p < 20 → fd p < mp i ∨ mp i + 64 ≤ fd p) ∧ ∀ i j, 0 ≤ i → i < 6 → 0 ≤ j → j < 6 → i ≠ j → mp i + 64 ≤ mp j ∨ mp j + 64 ≤ mp i
/-- the history of m's after a change of m is recorded -/
def sp_kP (m : Int → Int) (P : Int → Int → Int) (u : Int) : Int → Int → Int := fun i => if i = (if u = 6 then 5 else u) then m else if u = 6 then P (i + 1) else P i
section SVHIST
variable {S : sv_S} {r r' : sv_R} {f f' : sv_F} {V q d fo fi se sc tx vs rs pa u : Nat} {kp fd : Int → Nat} {mp : Int → Nat} {kq : Int → Int → Nat}
theorem sv_rk.rf : sv_rk S r r := fun _ _ => rfl
theorem sv_rk.tr {r2 : sv_R} (h : sv_rk S r r') (h2 : sv_rk S r' r2) : sv_rk S r r2 := fun x a => (h2 x a).trans (h x a)
theorem sv_K0.rk (h : sv_K0 S r u) (hr : sv_rk S r r') : sv_K0 S r' u := by
  unfold sv_K0 at h ⊢
  rw [hr u (by rw [h.2.1]; decide)]
  exact h
theorem sv_K1.rk (h : sv_K1 S r q kp) (hr : sv_rk S r r') : sv_K1 S r' q kp := by
  obtain ⟨h1, h2, h3, h4, h5, h6, h7⟩ := h
  unfold sv_K1
  rw [hr q (by rw [h2]; decide), hr (q + 3) (by rw [h5.2]; decide)]
  exact ⟨h1, h2, h3, h4, h5, fun p a b => ⟨(h6 p a b).1, (h6 p a b).2.1, (h6 p a b).2.2.rk hr⟩, h7⟩
theorem sv_K2.rk (h : sv_K2 S r d fo rs fd) (hr : sv_rk S r r') : sv_K2 S r' d fo rs fd := by
  obtain ⟨h1, h2, h3, h4, h5, h6⟩ := h
  unfold sv_K2
  rw [hr d (by rw [h2]; decide), hr fo (by rw [h3.2.2]; decide)]
  exact ⟨h1, h2, h3, h4, h5, h6⟩
theorem sv_K3.rk (h : sv_K3 S r sc tx vs) (hr : sv_rk S r r') : sv_K3 S r' sc tx vs := by
  unfold sv_K3 at h ⊢
  rw [hr sc (by rw [h.2.1]; decide)]
  exact h
theorem sv_K4.rk (h : sv_K4 S r V q d fi se pa sc) (hr : sv_rk S r r') : sv_K4 S r' V q d fi se pa sc := by
  unfold sv_K4 at h ⊢
  rw [hr V (by rw [h.2.1]; decide)]
  exact h
theorem sv_HI.e (h : sv_HI S r V q fi se sc tx vs rs fd pa mp kq) {i : Int} (h0 : 0 ≤ i) (h1 : i < 6) : r pa i = some (mp i) := (h.1 i h0 h1).1
theorem sv_HI.o (h : sv_HI S r V q fi se sc tx vs rs fd pa mp kq) {i : Int} (h0 : 0 ≤ i) (h1 : i < 6) : sv_K1 S r (mp i) (kq i) := (h.1 i h0 h1).2.1
theorem sv_HI.g (h : sv_HI S r V q fi se sc tx vs rs fd pa mp kq) {i : Int} (h0 : 0 ≤ i) (h1 : i < 6) : mp i + 64 ≤ q ∨ q + 64 ≤ mp i := (h.1 i h0 h1).2.2.1
theorem sv_HI.x (h : sv_HI S r V q fi se sc tx vs rs fd pa mp kq) {i : Int} (h0 : 0 ≤ i) (h1 : i < 6) : ∀ x, (x = V ∨ x = sc ∨ x = tx ∨ x = vs ∨ x = fi ∨ x = se ∨ x = rs) → (x < mp i ∨ mp i + 64 ≤ x) := (h.1 i h0 h1).2.2.2.1
theorem sv_HI.p (h : sv_HI S r V q fi se sc tx vs rs fd pa mp kq) {i : Int} (h0 : 0 ≤ i) (h1 : i < 6) : ∀ p, 0 ≤ p → p < 20 → fd p < mp i ∨ mp i + 64 ≤ fd p := (h.1 i h0 h1).2.2.2.2
theorem sv_HI.rot (h : sv_HI S r V q fi se sc tx vs rs fd pa mp kq) (hr : sv_rk S r r') (σ : Int → Int) (hs : ∀ i, 0 ≤ i → i < 6 → 0 ≤ σ i ∧ σ i < 6 ∧ r' pa i = some (mp (σ i))) (hi : ∀ i j, 0 ≤ i → i < 6 → 0 ≤ j → j < 6 → i ≠ j → σ i ≠ σ j) : sv_HI S r' V q fi se sc tx vs rs fd pa (fun i => mp (σ i)) (fun i => kq (σ i)) := by
  refine ⟨fun i a b => ?_, fun i j a b c e n => ?_⟩
  · obtain ⟨s0, s1, s2⟩ := hs i a b
    exact ⟨s2, (h.o s0 s1).rk hr, h.g s0 s1, h.x s0 s1, h.p s0 s1⟩
  · obtain ⟨s0, s1, -⟩ := hs i a b
    obtain ⟨t0, t1, -⟩ := hs j c e
    exact h.2 _ _ s0 s1 t0 t1 (hi i j a b c e n)
/-- what recording leaves as it was -/
def sv_hk (V : Nat) (mp : Int → Nat) (f f' : sv_F) : Prop := (∀ j, j ≠ 2 → f' V j = f V j) ∧ ∀ x, x ≠ V → (∀ i, 0 ≤ i → i < 6 → x < mp i ∨ mp i + 64 ≤ x) → f' x = f x
theorem sv_HI.of (h : sv_HI S r V q fi se sc tx vs rs fd pa mp kq) (hk : sv_hk V mp f f') {x : Nat} (hV : x ≠ V) (hx : (q ≤ x ∧ x < q + 64) ∨ x = sc ∨ x = tx ∨ x = vs ∨ x = fi ∨ x = se ∨ x = rs ∨ ∃ p, 0 ≤ p ∧ p < 20 ∧ x = fd p) : f' x = f x := hk.2 x hV fun i a b => by
  have h1 := h.g a b
  rcases hx with hx | hx | hx | hx | hx | hx | hx | ⟨p, p0, p1, rfl⟩
  · omega
  · exact h.x a b x (by simp [hx])
  · exact h.x a b x (by simp [hx])
  · exact h.x a b x (by simp [hx])
  · exact h.x a b x (by simp [hx])
  · exact h.x a b x (by simp [hx])
  · exact h.x a b x (by simp [hx])
  · exact h.p a b p p0 p1
theorem sp_kP_w {m : Int → Int} {P : Int → Int → Int} {u : Int} (hw : sp_wt m) (hg : sp_wg m) (hu : 0 ≤ u ∧ u ≤ 6) (hpw : ∀ i, 0 ≤ i → i < u → sp_wt (P i) ∧ sp_wg (P i)) : ∀ i, 0 ≤ i → i < sp_ku u → sp_wt (sp_kP m P u i) ∧ sp_wg (sp_kP m P u i) := by
  intro i i0 i1
  unfold sp_ku at i1
  unfold sp_kP
  by_cases h6 : u = 6
  · simp only [if_pos h6] at i1 ⊢
    by_cases h5 : i = 5
    · rw [if_pos h5]; exact ⟨hw, hg⟩
    · rw [if_neg h5]; exact hpw (i + 1) (by omega) (by omega)
  · simp only [if_neg h6] at i1 ⊢
    by_cases h5 : i = u
    · rw [if_pos h5]; exact ⟨hw, hg⟩
    · rw [if_neg h5]; exact hpw i i0 (by omega)
end SVHIST
set_option maxRecDepth 100000 in
set_option maxHeartbeats 4000000 in
theorem c_X4_remember {X : sv_X} {S : sv_S} {f : sv_F} {r : sv_R} {g : sv_G} {V q d fo rs fi se pa sc : Nat} {kp fd : Int → Nat} {m : Int → Int} (hve : sv_K4 S r V q d fi se pa sc) (hmo : sv_K1 S r q kp) (hmv : sv_V1 f q kp m) (hre : sv_K2 S r d fo rs fd) (hw : sp_wt m) {tx vs : Nat} (hsc : sv_K3 S r sc tx vs) (hp : sv_sep V q fi se sc tx vs rs fd) {mp : Int → Nat} {kq : Int → Int → Nat} {P : Int → Int → Int} {u : Int} (hh : sv_HI S r V q fi se sc tx vs rs fd pa mp kq) (hu : 0 ≤ u ∧ u ≤ 6) (hVu : f V 2 = u) (hpv : ∀ i, 0 ≤ i → i < u → sv_V1 f (mp i) (kq i) (P i)) (hpw : ∀ i, 0 ≤ i → i < u → sp_wt (P i) ∧ sp_wg (P i)) (hg : sp_wg m)  : sv_C X 3 MX4_remember 0 0 [sv_r V] S f r g (sv_qh (fun f' r' => ∃ mp' kq', sv_HI S r' V q fi se sc tx vs rs fd pa mp' kq' ∧ sv_rk S r r' ∧ f' V 2 = sp_ku u ∧ sv_hk V mp' f f' ∧ (∀ i, 0 ≤ i → i < sp_ku u → sv_V1 f' (mp' i) (kq' i) (sp_kP m P u i)) ∧ ∀ i, 0 ≤ i → i < 6 → ∃ j, 0 ≤ j ∧ j < 6 ∧ mp' i = mp j) S g) := by
  refine sv_met (by decide) (by simp [lg_sl, sv_cv, va_rf, Value.category]) ?_
  refine sv_fr fun hin => ?_
  have hcc := hw.c
  have hgf := hg.f
  have hVq : V < q ∨ q + 64 ≤ V := (hp.1 V (by simp)).1
  have g56 : ∀ (r1 : sv_R) (mp1 : Int → Nat) (kq1 : Int → Int → Nat) (u1 : Int), sv_HI S r1 V q fi se sc tx vs rs fd pa mp1 kq1 → sv_rk S r r1 → 0 ≤ u1 ∧ u1 ≤ 5 → (∀ i, 0 ≤ i → i < u1 → sv_V1 f (mp1 i) (kq1 i) (sp_kP m P u i)) → sp_ku u = u1 + 1 → sp_kP m P u u1 = m → (∀ i, 0 ≤ i → i < 6 → ∃ j, 0 ≤ j ∧ j < 6 ∧ mp1 i = mp j) → sv_T X (sv_rm 3 0 0) MX4_remember (sv_Zm X 0 0 (sv_qh (fun f' r' => ∃ mp' kq', sv_HI S r' V q fi se sc tx vs rs fd pa mp' kq' ∧ sv_rk S r r' ∧ f' V 2 = sp_ku u ∧ sv_hk V mp' f f' ∧ (∀ i, 0 ≤ i → i < sp_ku u → sv_V1 f' (mp' i) (kq' i) (sp_kP m P u i)) ∧ ∀ i, 0 ≤ i → i < 6 → ∃ j, 0 ≤ j ∧ j < 6 ∧ mp' i = mp j) S g)) 0 0 56 [some (sv_r V), none, none] [] S (sv_u f V 2 u1) r1 g := by
    intro r1 mp1 kq1 u1 hh hr hu1 hpv1 hk1 hk2 hpm
    have hve := hve.rk hr
    have hmo := hmo.rk hr
    have hx := hh.o hu1.1 (by omega : u1 < 6)
    have hxq := hh.g hu1.1 (by omega : u1 < 6)
    have hf1 : sv_V1 (sv_u f V 2 u1) q kp m := sv_V1.congr hmo hcc hmv fun x x0 x1 => sv_u_ne (by omega)
    refine sv_aload_n (i := 0) dX4_remember_56 rfl rfl ?_
    refine sv_getR (kz := 1) flX4_16 dX4_remember_57 rfl rfl hve.lt hve.k hve.r1 ?_
    refine sv_aload_n (i := 0) dX4_remember_60 rfl rfl ?_
    refine sv_getI (kz := 2) flX4_20 dX4_remember_61 rfl rfl hve.lt hve.k ?_
    rw [show sv_u f V 2 u1 V 2 = u1 by simp [sv_u]]
    refine sv_aald (t := 1) (n := 6) dX4_remember_64 hve.l1 (by decide) hve.s1 (by omega) (hh.e (i := u1) (by omega) (by omega)) ?_
    refine sv_aload_n (i := 0) dX4_remember_65 rfl rfl ?_
    refine sv_getR (kz := 0) flX4_10 dX4_remember_66 rfl rfl hve.lt hve.k hve.r0 ?_
    refine sv_vv0 (As := [_]) clX4_157 dX4_remember_69 ⟨_, rfl, rfl⟩ (by decide) rfl (Nat.le_of_ble_eq_true rfl) (by decide) (by decide) hx.lt hx.k (c_X1_copyFrom hx hmo hf1 (by omega) hw hgf) (fun f2 hf2 => ?_)
    obtain ⟨e1, e2⟩ := hf2
    have hV2 : f2 V = sv_u f V 2 u1 V := e1 V (hh.x hu1.1 (by omega : u1 < 6) V (by simp))
    refine sv_aload_n (i := 0) dX4_remember_72 rfl rfl ?_
    refine sv_dup dX4_remember_73 rfl ?_
    refine sv_getI (kz := 2) flX4_20 dX4_remember_74 rfl rfl hve.lt hve.k ?_
    rw [hV2, show sv_u f V 2 u1 V 2 = u1 by simp [sv_u]]
    refine sv_iconst dX4_remember_77 ?_
    refine sv_iadd dX4_remember_78 ?_
    refine sv_putI (kz := 2) flX4_20 dX4_remember_79 (Or.inl rfl) rfl rfl hve.lt hve.k (by first | omega | exact hin _ _ | decide | (simp [sv_u, sv_row]; omega) | (simp [sv_u, sv_row]; exact hin _ _) | exact hin1 _ _ | (simp [sv_u, sv_row]; exact hin1 _ _)) ?_
    refine sv_return dX4_remember_82 rfl ?_
    refine ⟨rfl, rfl, rfl, mp1, kq1, hh, hr, ?_, ⟨fun j hj => ?_, fun x xV hx => ?_⟩, fun i i0 i1 => ?_, hpm⟩
    · simp [sv_u]; omega
    · show (if V = V ∧ j = 2 then _ else f2 V j) = _
      rw [if_neg (by omega), hV2]; simp [sv_u, hj]
    · rw [sv_u_ne xV, e1 x (hx u1 hu1.1 (by omega)), sv_u_ne xV]
    · have hVi := hh.x i0 (by omega : i < 6) V (by simp)
      have hoi := hh.o i0 (by omega : i < 6)
      by_cases hi : i = u1
      · subst hi
        rw [hk2]
        exact sv_V1.congr hoi hcc e2 fun x x0 x1 => sv_u_ne (by omega)
      · have hV1 := hpv1 i i0 (by omega)
        have hne := hh.2 i u1 i0 (by omega) hu1.1 (by omega) hi
        have hci := (sp_kP_w hw hg hu hpw i i0 (by omega)).1.c
        exact sv_V1.congr hoi hci hV1 fun x x0 x1 => by rw [sv_u_ne (by omega), e1 x (by omega), sv_u_ne (by omega)]
  have lpp : u = 6 → sv_T X (sv_rm 3 0 0) MX4_remember (sv_Zm X 0 0 (sv_qh (fun f' r' => ∃ mp' kq', sv_HI S r' V q fi se sc tx vs rs fd pa mp' kq' ∧ sv_rk S r r' ∧ f' V 2 = sp_ku u ∧ sv_hk V mp' f f' ∧ (∀ i, 0 ≤ i → i < sp_ku u → sv_V1 f' (mp' i) (kq' i) (sp_kP m P u i)) ∧ ∀ i, 0 ≤ i → i < 6 → ∃ j, 0 ≤ j ∧ j < 6 ∧ mp' i = mp j) S g)) 0 0 9 [some (sv_r V), none, none] [] S (f) r g := by
    intro h60
    have lp : ∀ (kk : Nat) (i : Int) (r1 : sv_R), 6 - i < (kk : Int) → (1 ≤ i ∧ i ≤ 6) → (∀ x, x ≠ pa → r1 x = r x) → (∀ y, 0 ≤ y → y < i - 1 → r1 pa y = some (mp (y + 1))) → (∀ y, i - 1 ≤ y → y < 6 → r1 pa y = some (mp y)) → sv_T X (sv_rm 3 0 0) MX4_remember (sv_Zm X 0 0 (sv_qh (fun f' r' => ∃ mp' kq', sv_HI S r' V q fi se sc tx vs rs fd pa mp' kq' ∧ sv_rk S r r' ∧ f' V 2 = sp_ku u ∧ sv_hk V mp' f f' ∧ (∀ i, 0 ≤ i → i < sp_ku u → sv_V1 f' (mp' i) (kq' i) (sp_kP m P u i)) ∧ ∀ i, 0 ≤ i → i < 6 → ∃ j, 0 ≤ j ∧ j < 6 ∧ mp' i = mp j) S g)) 0 0 18 [some (sv_r V), some (sv_r (mp 0)), some (sv_i i)] [] S (f) r1 g := by
      intro kk
      induction kk with
      | zero =>
        intro i r1 hkk h2 h3 h4 h5
        exact absurd hkk (by omega)
      | succ kk ih =>
        intro i r1 hkk h2 h3 h4 h5
        have hr1 : sv_rk S r r1 := fun x hx2 => h3 x (fun e => hx2 (by rw [e, hve.s1]))
        have hve' := hve
        have hve := hve.rk hr1
        refine sv_iload_n (i := 2) dX4_remember_18 rfl rfl ?_
        refine sv_bipush dX4_remember_19 (by decide) ?_
        refine sv_icmp_ge (tgt := 44) dX4_remember_21 (by decide) (by first | omega | exact hin _ _ | decide | (simp [sv_u, sv_row]; omega) | (simp [sv_u, sv_row]; exact hin _ _) | exact hin1 _ _ | (simp [sv_u, sv_row]; exact hin1 _ _)) (by first | omega | exact hin _ _ | decide | (simp [sv_u, sv_row]; omega) | (simp [sv_u, sv_row]; exact hin _ _) | exact hin1 _ _ | (simp [sv_u, sv_row]; exact hin1 _ _)) (fun h_21 => ?_) (fun h_21 => ?_)
        · refine sv_aload_n (i := 0) dX4_remember_44 rfl rfl ?_
          refine sv_getR (kz := 1) flX4_16 dX4_remember_45 rfl rfl hve.lt hve.k hve.r1 ?_
          refine sv_iconst dX4_remember_48 ?_
          have hxo := (hh.o (i := 0) (by decide) (by decide)).rk hr1
          refine sv_aload_n (i := 1) dX4_remember_49 rfl rfl ?_
          refine sv_aast (t := 1) dX4_remember_50 hve.l1 (by decide) rfl hve.s1 (by omega) hxo.lt hxo.k ?_
          refine sv_aload_n (i := 0) dX4_remember_51 rfl rfl ?_
          refine sv_iconst dX4_remember_52 ?_
          refine sv_putI (kz := 2) flX4_20 dX4_remember_53 (Or.inl rfl) rfl rfl hve.lt hve.k (by first | omega | exact hin _ _ | decide | (simp [sv_u, sv_row]; omega) | (simp [sv_u, sv_row]; exact hin _ _) | exact hin1 _ _ | (simp [sv_u, sv_row]; exact hin1 _ _)) ?_
          have hrk : sv_rk S r (sv_ur r1 pa 5 (some (mp 0))) := fun x hx2 => by
            have hxp : x ≠ pa := fun e => hx2 (by rw [e, hve.s1])
            rw [sv_ur_ne hxp]; exact h3 x hxp
          have hsg : ∀ j : Int, 0 ≤ j → j < 6 → 0 ≤ (if j = 5 then 0 else j + 1) ∧ (if j = 5 then 0 else j + 1) < 6 ∧ sv_ur r1 pa 5 (some (mp 0)) pa j = some (mp (if j = 5 then 0 else j + 1)) := by
            intro j j0 j1
            by_cases hj : j = 5
            · subst hj; simp [sv_ur]
            · rw [if_neg hj]
              refine ⟨by omega, by omega, ?_⟩
              show (if pa = pa ∧ j = 5 then _ else r1 pa j) = _
              rw [if_neg (by omega)]; exact h4 j j0 (by omega)
          have hh2 := hh.rot hrk _ hsg (by intro i j a b c e n; split <;> split <;> omega)
          have h6 : u = 6 := by omega
          refine sv_wk (g56 _ _ _ 5 hh2 hrk (by omega) ?_ ?_ ?_ (fun j j0 j1 => ⟨_, (hsg j j0 j1).1, (hsg j j0 j1).2.1, rfl⟩)) ?_ rfl
          · intro i i0 i1
            have := hpv (i + 1) (by omega) (by omega)
            simp only [sp_kP, h6, if_pos, if_neg (show ¬ i = 5 by omega)]
            exact this
          · simp [sp_ku, h6]
          · simp [sp_kP, h6]
          · simp [sv_sub, sv_ent, sv_lng]
        · refine sv_aload_n (i := 0) dX4_remember_24 rfl rfl ?_
          refine sv_getR (kz := 1) flX4_16 dX4_remember_25 rfl rfl hve.lt hve.k hve.r1 ?_
          refine sv_iload_n (i := 2) dX4_remember_28 rfl rfl ?_
          refine sv_iconst dX4_remember_29 ?_
          refine sv_isub dX4_remember_30 ?_
          refine sv_aload_n (i := 0) dX4_remember_31 rfl rfl ?_
          refine sv_getR (kz := 1) flX4_16 dX4_remember_32 rfl rfl hve.lt hve.k hve.r1 ?_
          refine sv_iload_n (i := 2) dX4_remember_35 rfl rfl ?_
          have hx := hh.o (i := i) (by omega) (by omega)
          have hx := hx.rk hr1
          refine sv_aald (t := 1) (n := 6) dX4_remember_36 hve.l1 (by decide) hve.s1 (by omega) (h5 i (by omega) (by omega)) ?_
          refine sv_aast (t := 1) dX4_remember_37 hve.l1 (by decide) rfl hve.s1 (by omega) hx.lt hx.k ?_
          refine sv_iinc dX4_remember_38 rfl (by decide) rfl ?_
          refine sv_goto (tgt := 18) dX4_remember_41 (by decide) ?_
          refine ih (i + 1) _ (by omega) (by omega) ?_ ?_ ?_
          · intro x hx2; rw [sv_ur_ne hx2]; exact h3 x hx2
          · intro y y0 y1
            by_cases hy : y = i - 1
            · subst hy; simp [sv_ur]
            · show (if pa = pa ∧ y = i - 1 then _ else r1 pa y) = _
              rw [if_neg (by omega)]; exact h4 y y0 (by omega)
          · intro y y0 y1
            show (if pa = pa ∧ y = i - 1 then _ else r1 pa y) = _
            rw [if_neg (by omega)]; exact h5 y (by omega) y1
    refine sv_aload_n (i := 0) dX4_remember_9 rfl rfl ?_
    refine sv_getR (kz := 1) flX4_16 dX4_remember_10 rfl rfl hve.lt hve.k hve.r1 ?_
    refine sv_iconst dX4_remember_13 ?_
    have hxo := hh.o (i := 0) (by decide) (by decide)
    refine sv_aald (t := 1) (n := 6) dX4_remember_14 hve.l1 (by decide) hve.s1 (by omega) (hh.e (i := 0) (by decide) (by decide)) ?_
    refine sv_astore_n (i := 1) dX4_remember_15 rfl (by decide) rfl ?_
    refine sv_iconst dX4_remember_16 ?_
    refine sv_istore_n (i := 2) dX4_remember_17 rfl (by decide) rfl ?_
    exact lp 6 1 r (by omega) (by omega) (fun _ _ => rfl) (fun y a b => by omega) (fun y a b => hh.e (by omega) b)
  refine sv_aload_n (i := 0) dX4_remember_0 rfl rfl ?_
  refine sv_getI (kz := 2) flX4_20 dX4_remember_1 rfl rfl hve.lt hve.k ?_
  rw [hVu]
  refine sv_bipush dX4_remember_4 (by decide) ?_
  refine sv_icmp_lt (tgt := 56) dX4_remember_6 (by decide) (by first | omega | exact hin _ _ | decide | (simp [sv_u, sv_row]; omega) | (simp [sv_u, sv_row]; exact hin _ _) | exact hin1 _ _ | (simp [sv_u, sv_row]; exact hin1 _ _)) (by first | omega | exact hin _ _ | decide | (simp [sv_u, sv_row]; omega) | (simp [sv_u, sv_row]; exact hin _ _) | exact hin1 _ _ | (simp [sv_u, sv_row]; exact hin1 _ _)) (fun h_6 => ?_) (fun h_6 => ?_)
  · refine sv_cast (g56 r mp kq u hh sv_rk.rf (by omega) (fun i i0 i1 => ?_) ?_ ?_ (fun j j0 j1 => ⟨j, j0, j1, rfl⟩)) rfl rfl rfl rfl rfl ?_
    · have := hpv i i0 i1
      simp only [sp_kP, if_neg (show ¬ u = 6 by omega), if_neg (show ¬ i = u by omega)]
      exact this
    · simp only [sp_ku, if_neg (show ¬ u = 6 by omega)]
    · simp only [sp_kP, if_neg (show ¬ u = 6 by omega), if_pos]
    · exact (sv_u_self hVu).symm
  · exact lpp (by omega)
