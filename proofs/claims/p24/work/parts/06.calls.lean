def sv_rm (d mc ms : Nat) : Room := { frames := d, cells := mc, slots := ms, locals := 36 * d }
abbrev sv_Q : Type := Option sv_V → sv_S → sv_F → sv_R → sv_G → Prop
def sv_Pc (X : sv_X) (S : sv_S) (f : sv_F) (r : sv_R) (g : sv_G) : State → Prop := fun U => sv_K X U U.heap ∧ X.1 ≤ U.heap.size ∧ sv_P X S f r g U.heap
def sv_Qc (X : sv_X) (Q : sv_Q) : Array Value → State → Outcome → State → Prop := fun _ st oc t => (∃ (rv : Option sv_V) (S' : sv_S) (f' : sv_F) (r' : sv_R) (g' : sv_G), oc = .returned (rv.map (sv_cv X.1)) ∧ Q rv S' f' r' g' ∧ sv_P X S' f' r' g' t.heap) ∧ va_F (fun q => X.1 ≤ q) st t
/-- a method's contract: from the cells f, r, g of the shape S and the arguments av it returns, and Q holds of its answer and of the cells then -/
def sv_C (X : sv_X) (d : Nat) (M : sv_M) (mc ms : Nat) (av : List sv_V) (S : sv_S) (f : sv_F) (r : sv_R) (g : sv_G) (Q : sv_Q) : Prop := ∀ l : Launch, Met l M.1 [Cond.code M.1 M.2.1 M.2.2.1 M.2.2.2] (sv_rm d mc ms) (va_Pc (av.map (sv_cv X.1)) (sv_Pc X S f r g)) (sv_Qc X Q) mc ms (fun q => X.1 ≤ q)
def sv_Zm (X : sv_X) (mc ms : Nat) (Q : sv_Q) : sv_Z := fun below args s => MQ below (sv_Qc X Q) args s mc ms (fun q => X.1 ≤ q)
def sv_ent : List sv_V → Nat → sv_L
  | [], n => List.replicate n none
  | v :: vs, n => if sv_lng (some (some v)) = true then some v :: none :: sv_ent vs (n - 2) else some v :: sv_ent vs (n - 1)
theorem sv_ent_mem {b : Nat} : ∀ (av : List sv_V) (n o i : Nat) (v : sv_V), (sv_ent av n)[i]? = some (some v) → (o + i, sv_cv b v) ∈ lv_args o (av.map (sv_cv b)) := by
  intro av
  induction av with
  | nil =>
    intro n o i v h
    simp [sv_ent, List.getElem?_replicate] at h
  | cons w vs ih =>
    intro n o i v h
    show _ ∈ (o, sv_cv b w) :: lv_args (if (sv_cv b w).category = 2 then o + 2 else o + 1) (vs.map (sv_cv b))
    unfold sv_ent at h
    by_cases hl : sv_lng (some (some w)) = true
    · rw [if_pos hl] at h
      have hc : (sv_cv b w).category = 2 := by
        rcases w with a | a | x | a
        · simp [sv_lng] at hl
        · simp [sv_lng] at hl
        · rfl
        · simp [sv_lng] at hl
      rw [if_pos hc]
      match i, h with
      | 0, h => cases h; exact List.mem_cons_self
      | 1, h => cases h
      | i + 2, h =>
        have := ih (n - 2) (o + 2) i v h
        rw [show o + 2 + i = o + (i + 2) by omega] at this
        exact List.mem_cons_of_mem _ this
    · rw [if_neg hl] at h
      have hc : ¬ (sv_cv b w).category = 2 := fun q => hl (sv_cat2 q)
      rw [if_neg hc]
      match i, h with
      | 0, h => cases h; exact List.mem_cons_self
      | i + 1, h =>
        have := ih (n - 1) (o + 1) i v h
        rw [show o + 1 + i = o + (i + 1) by omega] at this
        exact List.mem_cons_of_mem _ this
theorem sv_met {X : sv_X} {d mc ms : Nat} {M : sv_M} {av : List sv_V} {S : sv_S} {f : sv_F} {r : sv_R} {g : sv_G} {Q : sv_Q} (hy : plainName M.1.cls = true) (hlen : (lg_sl (av.map (sv_cv X.1))).length ≤ M.2.2.1)
    (h : sv_T X (sv_rm d mc ms) M (sv_Zm X mc ms Q) 0 0 0 (sv_ent av M.2.2.1) [] S f r g) : sv_C X d M mc ms av S f r g Q := by
  intro l
  refine Met.ofW (cc := M.2.1) (maxL := M.2.2.1) (ret := M.2.2.2) hy rfl ?_
  intro p e s m args below meth c s₁ B hml hv
  obtain ⟨rfl, hK, hz, hP⟩ := hv
  have hown : s.vm.findClass M.1.cls = some m.cls := findClass_of_methodNamed B.named
  have hin : meth.name = M.1.name := (name_of_methodNamed B.named B.method).1
  have hle := lv_entry (av.map (sv_cv X.1)) hlen
  rw [lg_entry_eq]
  generalize hla : (lg_sl (av.map (sv_cv X.1)) ++ List.replicate (M.2.2.1 - (lg_sl (av.map (sv_cv X.1))).length) Slot.unset).toArray = la at hle ⊢
  refine h p l e s m _ below meth c s.heap [] la ⟨B.exec, B.bytes, B.returns, hml, hown, B.notSynchronized, hin, hK, hz⟩ hP va_S.rf (sv_H_of hle fun q hq => ?_)
  obtain ⟨v, h1, h2⟩ := sv_ps_mem.mp hq
  have := sv_ent_mem (b := X.1) av M.2.2.1 0 q.1 v h1
  rw [Nat.zero_add, ← h2] at this
  exact this
section SVCALL
variable {X : sv_X} {R : Room} {M : sv_M} {Z : sv_Z} {kc ks : Nat} {pc : Nat} {ls : sv_L} {st : List sv_V} {S : sv_S} {f : sv_F} {r : sv_R} {g : sv_G}
theorem sv_widen {k2 n2 : Nat} (h1 : kc ≤ k2) (h2 : ks ≤ n2) (k : sv_T X R M Z k2 n2 pc ls st S f r g) : sv_T X R M Z kc ks pc ls st S f r g := by
  intro p l e s m args below meth c H locs la hF hP hS hH
  exact W.widen h1 h2 (k p l e s m args below meth c H locs la hF hP hS hH)
theorem sv_ireturn {Q : sv_Q} {mc ms : Nat} {a : Int} (hd : decode M.2.1 pc = .ok (.ireturn, 1)) (hr : M.2.2.2 = some .int) (hq : Q (some (sv_i a)) S f r g) : sv_T X R M (sv_Zm X mc ms Q) mc ms pc ls [sv_i a] S f r g := by
  intro p l e s m args below meth c H locs la hF hP hS hH
  have hlocks := hF.2.2.2.2.2.1
  exact W.iret hF.1 hF.2.1 (hF.2.2.1.trans hr) (fun t ht hW => ⟨⟨_, _, _, _, _, rfl, hq, by rw [ht]; exact hP⟩, hS.F ht⟩) hS.2.2 hd
theorem sv_zreturn {Q : sv_Q} {mc ms : Nat} {a : Int} (hd : decode M.2.1 pc = .ok (.ireturn, 1)) (hr : M.2.2.2 = some .boolean) (ha : a = 0 ∨ a = 1) (hq : Q (some (sv_i a)) S f r g) : sv_T X R M (sv_Zm X mc ms Q) mc ms pc ls [sv_i a] S f r g := by
  intro p l e s m args below meth c H locs la hF hP hS hH
  have hlocks := hF.2.2.2.2.2.1
  exact W.zret hF.1 hF.2.1 (hF.2.2.1.trans hr) (by rcases ha with rfl | rfl <;> rfl) (fun t ht hW => ⟨⟨_, _, _, _, _, rfl, hq, by rw [ht]; exact hP⟩, hS.F ht⟩) hS.2.2 hd
theorem sv_lreturn {Q : sv_Q} {mc ms : Nat} {a : Int64} (hd : decode M.2.1 pc = .ok (.lreturn, 1)) (hr : M.2.2.2 = some .long) (hq : Q (some (sv_l a)) S f r g) : sv_T X R M (sv_Zm X mc ms Q) mc ms pc ls [sv_l a] S f r g := by
  intro p l e s m args below meth c H locs la hF hP hS hH
  have hlocks := hF.2.2.2.2.2.1
  exact W.lret hF.1 hF.2.1 (hF.2.2.1.trans hr) (fun t ht hW => ⟨⟨some (sv_l a), _, _, _, _, rfl, hq, by rw [ht]; exact hP⟩, hS.F ht⟩) hS.2.2 hd
theorem sv_return {Q : sv_Q} {mc ms : Nat} (hd : decode M.2.1 pc = .ok (.return_, 1)) (hr : M.2.2.2 = none) (hq : Q none S f r g) : sv_T X R M (sv_Zm X mc ms Q) mc ms pc ls [] S f r g := by
  intro p l e s m args below meth c H locs la hF hP hS hH
  have hlocks := hF.2.2.2.2.2.1
  exact W.vret hF.1 hF.2.1 (hF.2.2.1.trans hr) (fun t ht hW => ⟨⟨none, _, _, _, _, rfl, hq, by rw [ht]; exact hP⟩, hS.F ht⟩) hS.2.2 hd
/-- what a call needs of the tables: the callee's code, its class at rest, how many arguments -/
def sv_cc (own : String) (idx : Nat) (M' : sv_M) (n : Nat) : Prop := Cond.code M'.1 M'.2.1 M'.2.2.1 M'.2.2.2 ∈ lw_tbl ∧ Cond.initialized M'.1.cls ∈ lw_tbl ∧ (M'.1.cls ≠ "java/lang/invoke/MethodHandle" ∧ M'.1.cls ≠ "java/lang/invoke/VarHandle") ∧ (parseMethodDescriptor M'.1.desc).map (fun d => d.parameters.length) = some n ∧ (Cond.methodLink own idx M'.1 ∈ lw_tbl ∨ ∃ host, Cond.methodLinkNest own idx M'.1 host ∈ lw_tbl)
def sv_cV (own : String) (idx : Nat) (M' : sv_M) (n : Nat) : Prop := sv_cc own idx M' n ∧ Cond.instanceMethod M'.1 ∈ lw_tbl ∧ Cond.selects M'.1.cls M'.1 M'.1 ∈ lw_tbl
def sv_cS (own : String) (idx : Nat) (M' : sv_M) (n : Nat) : Prop := sv_cc own idx M' n ∧ Cond.static M'.1 ∈ lw_tbl
def sv_cI (own : String) (idx : Nat) (M' : sv_M) (n : Nat) : Prop := sv_cc own idx M' n ∧ Cond.instanceMethod M'.1 ∈ lw_tbl ∧ M'.1.name = "<init>" ∧ M'.2.2.2 = none
theorem sv_blind {av : List Value} : FrameBlind (va_Pc av (sv_Pc X S f r g)) := by
  intro a U g0 mk ⟨q0, q1, q2, q3⟩
  exact ⟨q0, q1.moved (U := U.calling g0 mk a) (State.WarmedH.refl U), q2, q3⟩
theorem sv_pc {s : State} {H : Heap} {locs : List Loc} {av : List Value} (hK : sv_K X s s.heap) (hz : X.1 ≤ s.heap.size) (hS : va_S (fun q => X.1 ≤ q) s.heap H locs) (hP : sv_P X S f r g H) (U : State) (hU : U.heap = H) (hW : s.WarmedH U.vm) : va_Pc av (sv_Pc X S f r g) av.toArray U := by
  have h1 := (hK.kept (H1 := H) hS.1 hS.2.1).moved hW
  exact ⟨rfl, by rw [hU]; exact h1, by rw [hU]; exact Nat.le_trans hz hS.1, by rw [hU]; exact hP⟩
theorem sv_goes {p : Program} {l : Launch} {e : Env} {s : State} {m : MethodId} {args : Array Value} {below : List Frame} {meth : Method} {c : Code} {H : Heap} {locs : List Loc} {la : Array Slot} {mc ms : Nat} {st0 rest : List Value} {a : Array Value} {Q : sv_Q} {Qw : State → Prop}
    (hr : va_Run p l e R s m args below meth c H locs kc ks mc ms (F0 m pc la st0) rest (sv_Qc X Q a) (fun q => X.1 ≤ q)) (hS : va_S (fun q => X.1 ≤ q) s.heap H locs)
    (kk : ∀ (rv : Option sv_V) (S' : sv_S) (f' : sv_F) (r' : sv_R) (g' : sv_G) (H1 : Heap) (locs1 : List Loc), Q rv S' f' r' g' → sv_P X S' f' r' g' H1 → va_S (fun q => X.1 ≤ q) s.heap H1 locs1 → W p l e R s m args below meth c H1 locs1 (kc + mc) (ks + ms) Qw (F0 m (pc + 3) la ((rv.map (sv_cv X.1)).toList ++ rest))) : W p l e R s m args below meth c H locs kc ks Qw (F0 m pc la st0) := by
  intro T hT Xs
  obtain ⟨v, st₀, t, T', L, h0, X', hL, e1, e2, ⟨⟨rv, S', f', r', g', hv, hq, hP⟩, hz, hk⟩, st⟩ := hr T hT Xs
  cases hv
  rw [h0] at hz hk
  obtain ⟨t2, a1, b1⟩ := kk rv S' f' r' g' T'.heap (locs ++ L) hq (by rw [e1]; exact hP)
    ⟨Nat.le_trans hS.1 (by rw [e1]; exact hz), fun q h1 h2 => by rw [e1, hk q (Nat.lt_of_lt_of_le h1 hS.1) h2]; exact hS.2.1 q h1 h2, fun q hq => by
      rcases List.mem_append.mp hq with h | h
      · exact hS.2.2 q h
      · exact hL q h⟩ T' rfl X'
  exact ⟨t2, st t2 a1, b1⟩
theorem sv_good {s : State} {M' : sv_M} (hK : sv_W s) (hc : Cond.code M'.1 M'.2.1 M'.2.2.1 M'.2.2.2 ∈ lw_tbl) : ∀ w ∈ [Cond.code M'.1 M'.2.1 M'.2.2.1 M'.2.2.2], ∀ (a' : Array Value) (U : State), s.WarmedH U.vm → w.before a' U = true := by
  intro w hw a' U hW
  rw [List.mem_singleton] at hw
  subst hw
  exact hK.go hW hc rfl
theorem sv_roomy {la : Array Slot} {m : MethodId} {b : Nat} {rest : List sv_V} (h : 2 * rest.length ≤ 8) : 2 * (F0 m pc la []).monitorRoom + ((rest.map (sv_cv b)).map fun v => v.category).sum ≤ 8 := by
  have h2 : ∀ l : List sv_V, ((l.map (sv_cv b)).map fun v => v.category).sum ≤ 2 * l.length := by
    intro l
    induction l with
    | nil => simp
    | cons v vs ih =>
      have : (sv_cv b v).category ≤ 2 := by rcases lv_cat (sv_cv b v) with h | h <;> omega
      simp only [List.map_cons, List.sum_cons, List.length_cons]
      omega
  exact lv_room (m := m) (pc := pc) (ls := la) (rest := []) (Nat.le_trans (h2 rest) h)
theorem sv_callV {M' : sv_M} {idx d mc ms i n : Nat} {As rest : List sv_V} {Q : sv_Q} (hl : sv_cV M.1.cls idx M' n) (hM : sv_C X d M' mc ms (sv_r i :: As) S f r g Q) (hR : d + 1 ≤ R.frames ∧ 8 + (M'.2.2.1 + 11) + 36 * d ≤ R.locals) (hc : kc + mc ≤ R.cells ∧ ks + ms ≤ R.slots) (hi : i < S.1) {ci : Nat} (hk : (S.2 i).1 = ci) (hcl : ∃ q, vwCl[ci]? = some q ∧ q.1 = M'.1.cls) (hci : ci < 6) (hn : As.length = n) (hst : 2 * rest.length ≤ 8) (hd : decode M.2.1 pc = .ok (.invokevirtual idx, 3))
    (kk : ∀ (rv : Option sv_V) (S' : sv_S) (f' : sv_F) (r' : sv_R) (g' : sv_G), Q rv S' f' r' g' → sv_T X R M Z (kc + mc) (ks + ms) (pc + 3) ls (rv.toList ++ rest) S' f' r' g') : sv_T X R M Z kc ks pc ls (As.reverse ++ sv_r i :: rest) S f r g := by
  intro p l e s m args below meth c H locs la hF hP hS hH
  have hKK := hF.2.2.2.2.2.2.2.1
  have hz := hF.2.2.2.2.2.2.2.2
  obtain ⟨⟨h1, h2, h3, h4, h5⟩, h6, h7⟩ := hl
  have hwt := hKK.1
  obtain ⟨q, hq1, hq2⟩ := hcl
  have he : (sv_ws X S f r g)[i]? = some (X.1 + i, .inr (ci, sv_fs X.1 ci (f i) (r i) (g i))) := by rw [sv_ws_get hi, sv_e_obj hk hci]
  have hrecv := va_recv hKK.2.1 hP.1 hq1 he
  rw [hq2] at hrecv
  have hcat := sv_roomy (m := m) (pc := pc) (la := la) (b := X.1) hst
  have go : va_Run p l e R s m args below meth c H locs kc ks mc ms (F0 m pc la ((As.reverse ++ sv_r i :: rest).map (sv_cv X.1))) (rest.map (sv_cv X.1)) (sv_Qc X Q (Value.ref (X.1 + i) :: As.map (sv_cv X.1)).toArray) (fun q => X.1 ≤ q) := by
    have hpv : PreV s H M'.1.cls (X.1 + i) (va_Pc ((sv_r i :: As).map (sv_cv X.1)) (sv_Pc X S f r g)) (As.map (sv_cv X.1)) := ⟨sv_blind, hrecv, fun U hU hW => sv_pc hKK hz hS hP U hU hW⟩
    have hnp : ∀ sig, parseMethodDescriptor M'.1.desc = some sig → n = sig.parameters.length := fun sig hs => by
      rw [hs] at h4
      exact (Option.some.inj h4).symm
    have hstk : (F0 m pc la ((As.reverse ++ sv_r i :: rest).map (sv_cv X.1))).stack = (As.map (sv_cv X.1)).reverse ++ .ref (X.1 + i) :: rest.map (sv_cv X.1) := by
      show (As.reverse ++ sv_r i :: rest).map (sv_cv X.1) = _
      rw [List.map_append, List.map_reverse]
      rfl
    rcases h5 with h5 | ⟨host, h5⟩
    · exact va_runV (Ts := []) ⟨hF.1, hF.2.1, hF.2.2.2.1, hF.2.2.2.2.1, fun _ h => by cases h⟩ (hM l) ⟨⟨rfl, rfl, hR.1, hR.2, sv_good hwt h1, List.mem_cons_self, hwt.use h1 rfl, hwt.use h2 rfl, h3, hnp, hwt.use h5 rfl⟩, hwt.use h6 rfl, hwt.use h7 rfl⟩ hpv rfl (by rw [List.length_map]; exact hn) hH.1 hstk hcat hd hc
    · exact va_runVN (Ts := []) ⟨hF.1, hF.2.1, hF.2.2.2.1, hF.2.2.2.2.1, fun _ h => by cases h⟩ (hM l) ⟨⟨⟨rfl, rfl, hR.1, hR.2, sv_good hwt h1, List.mem_cons_self⟩, hwt.use h1 rfl, hwt.use h2 rfl, h3, hnp, hwt.use h5 (by unfold sv_ok; exact Bool.or_true _)⟩, hwt.use h6 rfl, hwt.use h7 rfl⟩ hpv rfl (by rw [List.length_map]; exact hn) hH.1 hstk hcat hd hc
  refine sv_goes go hS fun rv S' f' r' g' H1 locs1 hq hP1 hS1 => ?_
  have := kk rv S' f' r' g' hq p l e s m args below meth c H1 locs1 la hF hP1 hS1 hH
  rw [List.map_append] at this
  cases rv <;> exact this
theorem sv_callS {M' : sv_M} {idx d mc ms n : Nat} {As rest : List sv_V} {Q : sv_Q} (hl : sv_cS M.1.cls idx M' n) (hM : sv_C X d M' mc ms As S f r g Q) (hR : d + 1 ≤ R.frames ∧ 8 + (M'.2.2.1 + 11) + 36 * d ≤ R.locals) (hc : kc + mc ≤ R.cells ∧ ks + ms ≤ R.slots) (hn : As.length = n) (hst : 2 * rest.length ≤ 8) (hd : decode M.2.1 pc = .ok (.invokestatic idx, 3))
    (kk : ∀ (rv : Option sv_V) (S' : sv_S) (f' : sv_F) (r' : sv_R) (g' : sv_G), Q rv S' f' r' g' → sv_T X R M Z (kc + mc) (ks + ms) (pc + 3) ls (rv.toList ++ rest) S' f' r' g') : sv_T X R M Z kc ks pc ls (As.reverse ++ rest) S f r g := by
  intro p l e s m args below meth c H locs la hF hP hS hH
  have hKK := hF.2.2.2.2.2.2.2.1
  have hz := hF.2.2.2.2.2.2.2.2
  obtain ⟨⟨h1, h2, h3, h4, h5⟩, h6⟩ := hl
  have hwt := hKK.1
  have hcat := sv_roomy (m := m) (pc := pc) (la := la) (b := X.1) hst
  have go : va_Run p l e R s m args below meth c H locs kc ks mc ms (F0 m pc la ((As.reverse ++ rest).map (sv_cv X.1))) (rest.map (sv_cv X.1)) (sv_Qc X Q (As.map (sv_cv X.1)).toArray) (fun q => X.1 ≤ q) := by
    have hpv : PreS s H (va_Pc (As.map (sv_cv X.1)) (sv_Pc X S f r g)) (As.map (sv_cv X.1)) := ⟨sv_blind, fun U hU hW => sv_pc hKK hz hS hP U hU hW⟩
    have hnp : ∀ sig, parseMethodDescriptor M'.1.desc = some sig → n = sig.parameters.length := fun sig hs => by
      rw [hs] at h4
      exact (Option.some.inj h4).symm
    have hstk : (F0 m pc la ((As.reverse ++ rest).map (sv_cv X.1))).stack = (As.map (sv_cv X.1)).reverse ++ rest.map (sv_cv X.1) := by
      show (As.reverse ++ rest).map (sv_cv X.1) = _
      rw [List.map_append, List.map_reverse]
    rcases h5 with h5 | ⟨host, h5⟩
    · exact va_runS (Ts := []) ⟨hF.1, hF.2.1, hF.2.2.2.1, hF.2.2.2.2.1, fun _ h => by cases h⟩ (hM l) ⟨⟨rfl, rfl, hR.1, hR.2, sv_good hwt h1, List.mem_cons_self, hwt.use h1 rfl, hwt.use h2 rfl, h3, hnp, hwt.use h5 rfl⟩, hwt.use h6 rfl⟩ hpv rfl (by rw [List.length_map]; exact hn) hH.1 hstk hcat hd hc
    · exact va_runSN (Ts := []) ⟨hF.1, hF.2.1, hF.2.2.2.1, hF.2.2.2.2.1, fun _ h => by cases h⟩ (hM l) ⟨⟨⟨rfl, rfl, hR.1, hR.2, sv_good hwt h1, List.mem_cons_self⟩, hwt.use h1 rfl, hwt.use h2 rfl, h3, hnp, hwt.use h5 (by unfold sv_ok; exact Bool.or_true _)⟩, hwt.use h6 rfl, trivial⟩ hpv rfl (by rw [List.length_map]; exact hn) hH.1 hstk hcat hd hc
  refine sv_goes go hS fun rv S' f' r' g' H1 locs1 hq hP1 hS1 => ?_
  have := kk rv S' f' r' g' hq p l e s m args below meth c H1 locs1 la hF hP1 hS1 hH
  rw [List.map_append] at this
  cases rv <;> exact this
end SVCALL
