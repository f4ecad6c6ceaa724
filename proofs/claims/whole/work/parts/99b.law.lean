-- ===== end of PART A; then your names; then what follows =====
/-! THE CLAIM OUT OF ONE WALK OF THE LAW'S BODY. Your part is whole_start (and what it stands on); all else here is the same for every law, but numbers. -/
def R_law : String := "StateVaultLaw"
def lw_P (b : Addr) (xs : List Int32) (args : Array Value) (s : State) : Prop := args = #[.ref b] ∧ s.IntsAt b xs ∧ xs.length ≤ 2048 ∧ (Jvm.Cond.and given_1 narrow_1).before args s = true
def lw_Q (_ : Array Value) (s : State) (o : Outcome) (t : State) : Prop := o = .returned (some (.int 1)) ∧ Framed s o t [] 600000 7302249
def lw_Z (below : List Frame) (a : Array Value) (s : State) : State → Prop := fun t => ∃ o, t.status = .running ∧ Ended t below o ∧ lw_Q a s o t
/-- the law's own end, with 1 on the stack, nothing written that was there before, its room as the claim has it -/
theorem lw_ret {p : Program} {l : Launch} {e : Env} {s : State} {m : MethodId} {below : List Frame} {meth : Method} {c : Code} {b : Nat} (hx : p.tables.exec = Jvm.exec) (hb : c.code = code) (hr : meth.sig.returnType = ret) (hlocks : meth.locks = false) {pc : Nat} {H : Heap} {ls : Array Slot} (hdg : decode code pc = .ok (.ireturn, 1)) : W p l e room_1 s m #[Value.ref b] below meth c H [] 600000 7302249 (lw_Z below #[Value.ref b] s) (F0 m pc ls [.int 1]) := by
  intro T hT X
  obtain ⟨fs, hret, hrun, hended, hW, hframe⟩ := X.leave (v := some (.int 1)) (hlocks := hlocks) (fun h => by rw [hr] at h; cases h)
  have hmeth' : T.vm.method? m = some meth := X.method'
  refine ⟨T.setFrames fs, ?_, .returned (some (.int 1)), hrun, hended, rfl, ⟨_, rfl⟩, hW, hframe⟩
  jvm_step X.here [X.here.top, hx, hb, hdg, hmeth', hr, ret, narrow_b1]
  (try refine ⟨rfl, ?_⟩); (try refine ⟨rfl, ?_⟩)
  first | (intro acts; rw [hret _ acts rfl rfl rfl]) | rw [hret _ _ rfl rfl rfl]
  exact Steps.refl _
/-- what holds at the law's entry: the machine, the code, the tables' words (any of lw_tbl by 'hts w (by decide +kernel)'), the script of L ints xs at the cell b, what the Statement gives of the start (any of its parts by flat_of_before) -/
def lw_At (p : Program) (s : State) (m : MethodId) (meth : Method) (c : Code) (b L : Nat) (xs : Nat → Int32) : Prop :=
  p.tables.exec = Jvm.exec ∧ c.code = code ∧ meth.sig.returnType = ret ∧ c.maxLocals = 4 ∧ s.vm.findClass R_law = some m.cls ∧ (∀ w ∈ lw_tbl, w.before #[Value.ref b] s = true) ∧ va_X b L xs s s.heap ∧ b < s.heap.size ∧ meth.locks = false ∧ (Jvm.Cond.and given_1 narrow_1).before #[Value.ref b] s = true
abbrev sv_ML : sv_M := (yL_law, cL_law, 4, some .boolean)
def sv_Zl (X : sv_X) : sv_Z := fun below args s t => s.heap.size ≤ X.1 → lw_Z below args s t
section SVLAW
variable {X : sv_X} {kc ks pc : Nat} {ls : sv_L} {st : List sv_V} {S : sv_S} {f : sv_F} {r : sv_R} {g : sv_G}
theorem sv_lret (hd : decode cL_law pc = .ok (.ireturn, 1)) (hc : kc ≤ 600000 ∧ ks ≤ 7302249) : sv_T X room_1 sv_ML (sv_Zl X) kc ks pc ls [sv_i 1] S f r g := by
  intro p l e s m args below meth c H locs la hF hP hS hH
  by_cases h : s.heap.size ≤ X.1
  · refine va_forget (fun q hq => Nat.le_trans h (hS.2.2 q hq)) ?_
    refine W.widen (k := 600000) (n := 7302249) hc.1 hc.2 ?_
    have hx := hF.1
    have hb := hF.2.1
    have hr : meth.sig.returnType = ret := hF.2.2.1
    have hlocks := hF.2.2.2.2.2.1
    intro T hT X0
    obtain ⟨fs, hret, hrun, hended, hW, hframe⟩ := X0.leave (v := some (.int 1)) (hlocks := hlocks) (fun h => by rw [hr] at h; cases h)
    have hmeth' : T.vm.method? m = some meth := X0.method'
    refine ⟨T.setFrames fs, ?_, fun _ => ⟨.returned (some (.int 1)), hrun, hended, rfl, ⟨_, rfl⟩, hW, hframe⟩⟩
    have hdg : decode code pc = .ok (.ireturn, 1) := hd
    have hb' : c.code = code := hb
    show Steps p.tables e below (T.setTop (F0 m pc la [.int 1])) _
    jvm_step X0.here [X0.here.top, hx, hb', hdg, hmeth', hr, ret, narrow_b1]
    (try refine ⟨rfl, ?_⟩); (try refine ⟨rfl, ?_⟩)
    first | (intro acts; rw [hret _ acts rfl rfl rfl]) | rw [hret _ _ rfl rfl rfl]
    exact Steps.refl _
  · intro T hT X0
    exact ⟨_, Steps.refl _, fun h' => absurd h' h⟩
variable {R : Room} {M : sv_M} {Z : sv_Z}
theorem sv_sld {j : Int} (hj : 0 ≤ j ∧ j < (X.2.2.2.1.2.1 : Int)) (hd : decode M.2.1 pc = .ok (.iaload, 1)) (kk : sv_T X R M Z kc ks (pc + 1) ls (sv_i (X.2.2.2.1.2.2 j.toNat).toInt :: st) S f r g) : sv_T X R M Z kc ks pc ls (sv_i j :: sv_w X.2.2.2.1.1 :: st) S f r g := by
  intro p l e s m args below meth c H locs la hF hP hS hH
  have hKK := hF.2.2.2.2.2.2.2.1
  obtain ⟨h1, h2, h3, h4⟩ := hKK.2.2.1.1
  obtain ⟨v1, v2⟩ := sv_vp hj (by omega)
  refine va_sld hF.1 hF.2.1 h1 h4 (by omega) hS v1 hd ?_
  have hkk := kk p l e s m args below meth c H locs la hF hP hS hH
  rw [show (Int32.ofInt j).toNatClampNeg = j.toNat by omega]
  have : sv_cv X.1 (sv_i (X.2.2.2.1.2.2 j.toNat).toInt) = .int (X.2.2.2.1.2.2 j.toNat) := congrArg Value.int (Int32.ofInt_toInt _)
  rw [List.map_cons, this] at hkk
  exact hkk
theorem sv_slen (hd : decode M.2.1 pc = .ok (.arraylength, 1)) (kk : sv_T X R M Z kc ks (pc + 1) ls (sv_i (X.2.2.2.1.2.1 : Nat) :: st) S f r g) : sv_T X R M Z kc ks pc ls (sv_w X.2.2.2.1.1 :: st) S f r g := by
  intro p l e s m args below meth c H locs la hF hP hS hH
  have hKK := hF.2.2.2.2.2.2.2.1
  obtain ⟨h1, h2, h3, h4⟩ := hKK.2.2.1.1
  exact va_slen hF.1 hF.2.1 h1 h4 (by omega) hS hd (kk p l e s m args below meth c H locs la hF hP hS hH)
theorem sv_icmp_eqs {x off : Int} {tgt : Nat} (hd : decode M.2.1 pc = .ok (.if_icmp .eq off, 3)) (ht : (pc : Int) + off = (tgt : Int)) (kt : sv_T X R M Z kc ks tgt ls st S f r g) : sv_T X R M Z kc ks pc ls (sv_i x :: sv_i x :: st) S f r g := by
  intro p l e s m args below meth c H locs la hF hP hS hH
  exact lv_icmp_eq hF.1 hF.2.1 hd ht (fun _ => kt p l e s m args below meth c H locs la hF hP hS hH) (fun h => absurd rfl h)
theorem sv_in32 (z : Int32) : sv_in z.toInt := ⟨Int32.le_toInt z, by have := Int32.toInt_lt z; omega⟩
/-- a virtual call whatever it leaves -/
theorem sv_vq0 {M' : sv_M} {idx d i ci n : Nat} {As : List sv_V} {Q : sv_Q} (hl : sv_cV M.1.cls idx M' n) (hd : decode M.2.1 pc = .ok (.invokevirtual idx, 3)) (hcl : ∃ q, vwCl[ci]? = some q ∧ q.1 = M'.1.cls) (hci : ci < 6) (hn : As.length = n) (hst : 2 * st.length ≤ 8) (hR : d + 1 ≤ R.frames ∧ 8 + (M'.2.2.1 + 11) + 36 * d ≤ R.locals) (hc : kc ≤ R.cells ∧ ks ≤ R.slots) (hi : i < S.1) (hk : (S.2 i).1 = ci)
    (hM : sv_C X d M' 0 0 (sv_r i :: As) S f r g Q) (kk : ∀ rv S' f' r' g', Q rv S' f' r' g' → sv_T X R M Z kc ks (pc + 3) ls (rv.toList ++ st) S' f' r' g') : sv_T X R M Z kc ks pc ls (As.reverse ++ sv_r i :: st) S f r g :=
  sv_callV hl hM hR hc hi hk hcl hci hn hst hd kk
end SVLAW
/-- all that holds at the head of the law's loop: the class's vault and the Model hold one game m, one history P (u many), one text -/
def sv_IW (S : sv_S) (r : sv_R) (f : sv_F) (m : Int → Int) (u : Int) (P : Int → Int → Int) (tl : Int) (t : Int → Int) (kp mp : Int → Nat) (kq : Int → Int → Nat) : Prop :=
  (sp_wt m ∧ sp_wg m ∧ (0 ≤ u ∧ u ≤ 6) ∧ (∀ i, 0 ≤ i → i < u → sp_wt (P i) ∧ sp_wg (P i)) ∧ (0 ≤ tl ∧ tl ≤ 80)) ∧ sv_K4 S r 0 1 69 92 93 65 66 ∧ sv_K2 S r 69 70 91 (sv_fd 69) ∧ sv_K3 S r 66 67 68 ∧ sv_K1 S r 1 kp ∧ sv_HI S r 0 1 92 93 66 67 68 91 (sv_fd 69) 65 mp kq ∧ sv_bd 478 0 1 92 93 66 67 68 91 65 (sv_fd 69) mp ∧ sv_V1 f 1 kp m ∧ f 0 2 = u ∧ (∀ i, 0 ≤ i → i < u → sv_V1 f (mp i) (kq i) (P i)) ∧ f 66 1 = tl ∧ f 67 = t ∧ sv_M5 S r 478 ∧ f (478 + 1) = m ∧ f 478 2 = u ∧ (∀ i, 0 ≤ i → i < u → ∀ k, 0 ≤ k → k < 598 → P i k = f (478 + 2) (598 * i + k)) ∧ f 478 10 = tl ∧ f (478 + 7) = t
def sv_IV (S : sv_S) (r : sv_R) (f : sv_F) : Prop := ∃ m u P tl t kp mp kq, sv_IW S r f m u P tl t kp mp kq
section SVIW
variable {S : sv_S} {r r' r1 : sv_R} {f f' f1 f2 : sv_F} {m m' : Int → Int} {u u' : Int} {P P' : Int → Int → Int} {tl : Int} {t : Int → Int} {kp mp : Int → Nat} {kq : Int → Int → Nat} {o : Nat}
theorem sv_M5.cg (h : sv_M5 S r o) (hr : r' o = r o) : sv_M5 S r' o := by unfold sv_M5 at h ⊢; rw [hr]; exact h
/-- cells of the class that neither side's game, history nor text stands in -/
theorem sv_IW.cg (h : sv_IW S r f m u P tl t kp mp kq) (h1 : ∀ x, x < 478 → x ≠ 91 → x ≠ 92 → x ≠ 93 → (∀ p, 0 ≤ p → p < 20 → x ≠ sv_fd 69 p) → f' x = f x) (h2 : f' (478 + 1) = f (478 + 1)) (h3 : f' 478 2 = f 478 2) (h4 : f' (478 + 2) = f (478 + 2)) (h5 : f' 478 10 = f 478 10) (h7 : f' (478 + 7) = f (478 + 7)) : sv_IW S r f' m u P tl t kp mp kq := by
  obtain ⟨hok, hve, hre, hsc, hmo, hh, hbd, hmv, hVu, hpv, htl1, htt, hsh, hm, hmu, hmP, hm10, hm7⟩ := h
  have hfd : ∀ x, (x < 71 ∨ 91 ≤ x) → ∀ p, 0 ≤ p → p < 20 → x ≠ sv_fd 69 p := fun x hx p p0 p1 => by unfold sv_fd; omega
  refine ⟨hok, hve, hre, hsc, hmo, hh, hbd, sv_V1.congr hmo hok.1.c hmv fun x x0 x1 => h1 x (by omega) (by omega) (by omega) (by omega) (hfd x (by omega)), by rw [h1 0 (by omega) (by omega) (by omega) (by omega) (hfd 0 (by omega))]; exact hVu, fun i i0 i1 => ?_, by rw [h1 66 (by omega) (by omega) (by omega) (by omega) (hfd _ (by omega))]; exact htl1, by rw [h1 67 (by omega) (by omega) (by omega) (by omega) (hfd _ (by omega))]; exact htt, hsh, by rw [h2]; exact hm, by rw [h3]; exact hmu, by rw [h4]; exact hmP, by rw [h5]; exact hm10, by rw [h7]; exact hm7⟩
  have hi6 : i < 6 := by have := hok.2.2.1; omega
  have hx := hh.x i0 hi6
  have b := hbd.2.2 i i0 hi6
  have e1 := hx 92 (by simp)
  have e2 := hx 93 (by simp)
  have e3 := hx 91 (by simp)
  exact sv_V1.congr (hh.o i0 hi6) (hok.2.2.2.1 i i0 i1).1.c (hpv i i0 i1) fun x x0 x1 => h1 x (by omega) (by omega) (by omega) (by omega) (fun p p0 p1 => by have := hh.p i0 hi6 p p0 p1; omega)
theorem sv_IW.un (h : sv_IW S r f m u P tl t kp mp kq) (hu : sv_un 91 92 93 (sv_fd 69) f f') : sv_IW S r f' m u P tl t kp mp kq := by
  have e : ∀ x, 478 ≤ x → f' x = f x := fun x hx => hu x (by omega) (fun p p0 p1 => by unfold sv_fd; omega) (by omega) (by omega)
  exact h.cg (fun x _ a b c d => hu x a d b c) (e _ (by omega)) (by rw [e _ (by omega)]) (e _ (by omega)) (by rw [e _ (by omega)]) (e _ (by omega))
theorem sv_IW.sq (h : sv_IW S r f m u P tl t kp mp kq) (hs : sp_sq 478 f f') : sv_IW S r f' m u P tl t kp mp kq :=
  h.cg (fun x hx _ _ _ _ => hs.1 x (by omega) (by omega) (by omega) (by omega) (by omega) (by omega) (by omega)) hs.m hs.2.1 hs.p hs.2.2 hs.t
theorem sv_IW.md (h : sv_IW S r f m u P tl t kp mp kq) (hn : sv_NX S 0 1 69 70 91 92 93 65 66 67 68 (sv_fd 69) mp r f m' u' P' f1 r1) : sv_M5 S r1 478 ∧ ∀ x, 478 ≤ x → f1 x = f x := by
  obtain ⟨hok, hve, hre, hsc, hmo, hh, hbd, hmv, hVu, hpv, htl1, htt, hsh, hm, hmu, hmP, hm10, hm7⟩ := h
  obtain ⟨kp', mp', kq', -, -, -, -, -, -, -, -, -, -, hfr⟩ := hn
  obtain ⟨-, hx⟩ := hfr 478 hbd
  exact ⟨hsh.cg ((hx 478 (by omega)).2 (by rw [hsh.k]; decide)), fun x h => (hx x h).1⟩
/-- both sides have changed alike -/
theorem sv_IW.nx (h : sv_IW S r f m u P tl t kp mp kq) (hn : sv_NX S 0 1 69 70 91 92 93 65 66 67 68 (sv_fd 69) mp r f m' u' P' f1 r1) (hok' : sp_wt m' ∧ sp_wg m') (hu' : 0 ≤ u' ∧ u' ≤ 6) (hP' : ∀ i, 0 ≤ i → i < u' → sp_wt (P' i) ∧ sp_wg (P' i)) (h0 : ∀ x, x < 478 → f2 x = f1 x) (h1 : f2 (478 + 1) = m') (h2 : f2 478 2 = u') (h3 : ∀ i, 0 ≤ i → i < u' → ∀ k, 0 ≤ k → k < 598 → P' i k = f2 (478 + 2) (598 * i + k)) (h4 : f2 478 10 = f1 478 10) (h5 : f2 (478 + 7) = f1 (478 + 7)) : sv_IV S r1 f2 := by
  obtain ⟨hsh1, hx1⟩ := h.md hn
  obtain ⟨hok, hve, hre, hsc, hmo, hh, hbd, hmv, hVu, hpv, htl1, htt, hsh, hm, hmu, hmP, hm10, hm7⟩ := h
  obtain ⟨kp', mp', kq', a1, a2, a3, a4, a5, a6, a7, a8, a9, b1, hfr⟩ := hn
  obtain ⟨hbd', -⟩ := hfr 478 hbd
  refine ⟨m', u', P', tl, t, kp', mp', kq', ⟨hok'.1, hok'.2, hu', hP', hok.2.2.2.2⟩, a1, a3, a4, a2, a5, hbd', sv_V1.congr a2 hok'.1.c a6 fun x x0 x1 => h0 x (by omega), by rw [h0 0 (by omega)]; exact a7, fun i i0 i1 => ?_, by rw [h0 66 (by omega), a9]; exact htl1, by rw [h0 67 (by omega), b1]; exact htt, hsh1, h1, h2, h3, by rw [h4, hx1 _ (by omega)]; exact hm10, by rw [h5, hx1 _ (by omega)]; exact hm7⟩
  have b := hbd'.2.2 i i0 (by omega)
  exact sv_V1.congr (a5.o i0 (by omega)) (hP' i i0 i1).1.c (a8 i i0 i1) fun x x0 x1 => h0 x (by omega)
theorem sv_IW.ch (h : sv_IW S r f m u P tl t kp mp kq) (hn : sv_NX S 0 1 69 70 91 92 93 65 66 67 68 (sv_fd 69) mp r f m' (sp_ku u) (sp_kP m P u) f1 r1) (hok' : sp_wt m' ∧ sp_wg m') (hc : sp_chg 478 f1 f2) (h1 : f2 (478 + 1) = m') : sv_IV S r1 f2 := by
  obtain ⟨hsh1, hx1⟩ := h.md hn
  obtain ⟨c1, c2, c3, c4, c5⟩ := hc
  have h' := h
  obtain ⟨hok, hve, hre, hsc, hmo, hh, hbd, hmv, hVu, hpv, htl1, htt, hsh, hm, hmu, hmP, hm10, hm7⟩ := h'
  refine h.nx hn hok' (sp_ku_in hok.2.2.1) (sp_kP_w hok.1 hok.2.1 hok.2.2.1 hok.2.2.2.1) (fun x hx => c1 x (Or.inl hx)) h1 (by rw [c5, hx1 478 (by omega), hmu]) ?_ c3 c2
  rw [c4, hx1 (478 + 1) (by omega), hx1 (478 + 2) (by omega), hx1 478 (by omega), hm, hmu]
  exact sp_kP_past hok.2.2.1 hmP
end SVIW

