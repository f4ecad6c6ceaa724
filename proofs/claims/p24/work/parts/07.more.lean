/-- the first n of the row s laid over the row d -/
def sv_cp (f : sv_F) (d s : Nat) (n : Int) : sv_F := fun x y => if x = d ∧ 0 ≤ y ∧ y < n then f s y else f x y
section SVMORE
variable {X : sv_X} {R : Room} {M : sv_M} {Z : sv_Z} {kc ks : Nat} {pc : Nat} {ls : sv_L} {st : List sv_V} {S : sv_S} {f : sv_F} {r : sv_R} {g : sv_G}
theorem sv_sum {b : Nat} {rest : List sv_V} (h : 2 * rest.length ≤ 8) : ((rest.map (sv_cv b)).map fun v => v.category).sum ≤ 8 := by
  have h2 : ∀ l : List sv_V, ((l.map (sv_cv b)).map fun v => v.category).sum ≤ 2 * l.length := by
    intro l
    induction l with
    | nil => simp
    | cons v vs ih =>
      have : (sv_cv b v).category ≤ 2 := by rcases lv_cat (sv_cv b v) with h | h <;> omega
      simp only [List.map_cons, List.sum_cons, List.length_cons]
      omega
  exact Nat.le_trans (h2 rest) h
theorem sv_copy {idx i0 i1 n0 n1 : Nat} {n : Int} (hl : Cond.methodLink M.1.cls idx arraycopyName ∈ lw_tbl) (hw : Cond.native arraycopyName ∈ lw_tbl ∧ Cond.static arraycopyName ∈ lw_tbl ∧ Cond.initialized "java/lang/System" ∈ lw_tbl) (hi0 : i0 < S.1) (hk0 : S.2 i0 = (6, n0)) (hi1 : i1 < S.1) (hk1 : S.2 i1 = (6, n1)) (hn : 0 ≤ n ∧ n ≤ (n0 : Int) ∧ n ≤ (n1 : Int)) (hst : 2 * st.length ≤ 8) (hR : 1 ≤ R.frames ∧ 36 ≤ R.locals) (hd : decode M.2.1 pc = .ok (.invokestatic idx, 3))
    (kk : sv_T X R M Z kc ks (pc + 3) ls st S (sv_cp f i1 i0 n) r g) : sv_T X R M Z kc ks pc ls (sv_i n :: sv_i 0 :: sv_r i1 :: sv_i 0 :: sv_r i0 :: st) S f r g := by
  intro p l e s m args below meth c H locs la hF hP hS hH
  have hKK := hF.2.2.2.2.2.2.2.1
  have hwt := hKK.1
  have e0 : (sv_ws X S f r g)[i0]? = some (X.1 + i0, .inl (X.2.2.1 0, n0, .inl (fun j => Int32.ofInt (f i0 (j : Int))))) := by rw [sv_ws_get hi0, hk0, sv_e_int]
  have e1 : (sv_ws X S f r g)[i1]? = some (X.1 + i1, .inl (X.2.2.1 0, n1, .inl (fun j => Int32.ofInt (f i1 (j : Int))))) := by rw [sv_ws_get hi1, hk1, sv_e_int]
  have hn0 : n0 ≤ 100000 := by have := hP.2.2.2 i0; rw [hk0] at this; exact this
  have hn1 : n1 ≤ 100000 := by have := hP.2.2.2 i1; rw [hk1] at this; exact this
  have ez : (Int32.ofInt 0).toNatClampNeg = 0 := rfl
  have en : (Int32.ofInt n).toNatClampNeg = n.toNat := by rw [← Int32.toNat_toInt, sv_toInt (by omega)]
  have hz0 : ¬ Int32.ofInt 0 < 0 := by decide
  have hzn : ¬ Int32.ofInt n < 0 := by
    intro h
    have := (sv_ltI (x := n) (y := 0) (by omega) (by omega)).mp h
    omega
  have hcat := sv_sum (b := X.1) hst
  have hin : ∀ i j, sv_in (sv_cp f i1 i0 n i j) := by
    intro i j
    unfold sv_cp
    split <;> exact hP.2.2.1 _ _
  have hset : (sv_ws X S f r g).set i1 (X.1 + i1, .inl (X.2.2.1 0, n1, .inl (va_cpy (fun j => Int32.ofInt (f i0 (j : Int))) (fun j => Int32.ofInt (f i1 (j : Int))) (Int32.ofInt 0).toNatClampNeg (Int32.ofInt 0).toNatClampNeg (Int32.ofInt n).toNatClampNeg))) = sv_ws X S (sv_cp f i1 i0 n) r g := by
    refine sv_ws_set (fun _ => ?_) (fun j h => by funext y; simp [sv_cp, h]) (fun _ _ => rfl) (fun _ _ => rfl)
    rw [hk1, sv_e_int, ez, en]
    refine congrArg (fun z => Sum.inl (X.2.2.1 0, n1, Sum.inl z)) (funext fun j => ?_)
    by_cases hj : j < n.toNat
    · rw [pk_cpy_in (Nat.zero_le _) (by omega)]
      show Int32.ofInt (f i0 ((0 + (j - 0) : Nat) : Int)) = Int32.ofInt (sv_cp f i1 i0 n i1 (j : Int))
      unfold sv_cp
      rw [if_pos ⟨rfl, by omega, by omega⟩]
      simp
    · rw [pk_cpy_out (Or.inr (by omega))]
      unfold sv_cp
      rw [if_neg (by omega)]
  have hK := hKK.2.1
  have hc0 : H[X.1 + i0]? = some (vp_cell (X.2.2.1 0) (n0, .inl (fun j => Int32.ofInt (f i0 (j : Int))))) := hP.1 i0 _ e0
  have hc1 : H[X.1 + i1]? = some (vp_cell (X.2.2.1 0) (n1, .inl (fun j => Int32.ofInt (f i1 (j : Int))))) := hP.1 i1 _ e1
  obtain ⟨-, k0, hk0', cm0, hkk0⟩ := (hK.2 0 _ rfl).1 n0 (fun j => .int (Int32.ofInt (f i0 (j : Int))))
  obtain ⟨-, k1, hk1', cm1, hkk1⟩ := (hK.2 0 _ rfl).1 n1 (fun j => .int (Int32.ofInt (f i1 (j : Int))))
  have s0 : (vp_cell (X.2.2.1 0) (n0, .inl (fun j => Int32.ofInt (f i0 (j : Int))))).slots.size = n0 := by rw [vp_cell_i, arrV_size]
  have s1 : (vp_cell (X.2.2.1 0) (n1, .inl (fun j => Int32.ofInt (f i1 (j : Int))))).slots.size = n1 := by rw [vp_cell_i, arrV_size]
  have tz : (Int32.ofInt 0).toInt = 0 := rfl
  have tn : (Int32.ofInt n).toInt = n := sv_toInt (by omega)
  intro T hT Xs
  obtain ⟨vm', X', step⟩ := Xs.arraycopy hF.1 hF.2.2.2.2.1 (hwt.use hl rfl) (hwt.use hw.1 rfl) (hwt.use hw.2.1 rfl) (hwt.use hw.2.2 rfl) (src := X.1 + i0) (dst := X.1 + i1) (cs := vp_cell (X.2.2.1 0) (n0, .inl (fun j => Int32.ofInt (f i0 (j : Int))))) (cd := vp_cell (X.2.2.1 0) (n1, .inl (fun j => Int32.ofInt (f i1 (j : Int))))) (srcPos := Int32.ofInt 0) (destPos := Int32.ofInt 0) (n := Int32.ofInt n) (by rw [hT]; exact hc0) (by rw [hT]; exact hc1)
    (fun _ h => by cases h) (fun _ h => by cases h) (fun h => by cases h) (fun h => by cases h) hk0' hk1' hkk0 hkk1 (by simp [refKind]) hz0 hz0 hzn
    (by rw [tz, tn, s0]; omega) (by rw [tz, tn, s1]; omega)
    (fun vm₁ _ i hi => by
      have e : (vp_cell (X.2.2.1 0) (n0, .inl (fun j => Int32.ofInt (f i0 (j : Int))))).slots.getD ((Int32.ofInt 0).toNatClampNeg + i) .null = .int (Int32.ofInt (f i0 (((Int32.ofInt 0).toNatClampNeg + i : Nat) : Int))) := by
        show (arrV (X.2.2.1 0) n0 (fun j => .int (Int32.ofInt (f i0 (j : Int))))).slots.getD _ _ = _
        rw [Array.getD_eq_getD_getElem?, arrV_read _ _ (by omega)]
        rfl
      refine ⟨?_, ?_⟩
      · rw [e]
        rfl
      · rw [e]
        exact trivial)
    (g := F0 m pc la ((sv_i n :: sv_i 0 :: sv_r i1 :: sv_i 0 :: sv_r i0 :: st).map (sv_cv X.1))) rfl (by rw [hF.2.2.2.1]; exact hH.1) (rest := st.map (sv_cv X.1)) rfl (by rw [hF.2.1]; exact hd) hR.1 (by
      have h9 : nativeFrameWords "java/lang/System" "arraycopy" 5 + 11 ≤ 28 := by decide
      show 2 * 0 + _ + _ ≤ _
      omega)
  have hle : (Int32.ofInt 0).toNatClampNeg + (Int32.ofInt n).toNatClampNeg ≤ n0 := by rw [ez, en]; omega
  have e3 : copied (vp_cell (X.2.2.1 0) (n0, .inl (fun j => Int32.ofInt (f i0 (j : Int))))) (vp_cell (X.2.2.1 0) (n1, .inl (fun j => Int32.ofInt (f i1 (j : Int))))) (Int32.ofInt 0) (Int32.ofInt 0) (Int32.ofInt n) = vp_cell (X.2.2.1 0) (n1, .inl (va_cpy (fun j => Int32.ofInt (f i0 (j : Int))) (fun j => Int32.ofInt (f i1 (j : Int))) (Int32.ofInt 0).toNatClampNeg (Int32.ofInt 0).toNatClampNeg (Int32.ofInt n).toNatClampNeg)) := va_copied (fun z => .int z) (X.2.2.1 0) (X.2.2.1 0) (fun j => Int32.ofInt (f i0 (j : Int))) (fun j => Int32.ofInt (f i1 (j : Int))) (hle)
  rw [e3] at X' step
  generalize hcell : vp_cell (X.2.2.1 0) (n1, .inl (va_cpy (fun j => Int32.ofInt (f i0 (j : Int))) (fun j => Int32.ofInt (f i1 (j : Int))) (Int32.ofInt 0).toNatClampNeg (Int32.ofInt 0).toNatClampNeg (Int32.ofInt n).toNatClampNeg)) = nc at X' step
  have ha : X.1 + i1 < H.size := (Array.getElem?_eq_some_iff.mp hc1).1
  have hheap : ((T.setVm vm').setCell (X.1 + i1) nc).heap = H.setIfInBounds (X.1 + i1) nc := by rw [← hT]; rfl
  have oq : ∀ q : Nat, q ≠ X.1 + i1 → (H.setIfInBounds (X.1 + i1) nc)[q]? = H[q]? := fun q hq => by simp [Array.getElem?_setIfInBounds, Ne.symm hq]
  have hP1 : va_P X.2.1 vwCl (sv_ws X S (sv_cp f i1 i0 n) r g) (H.setIfInBounds (X.1 + i1) nc) := by
    rw [← hset]
    refine hP.1.set sv_ws_D e1 (show (H.setIfInBounds (X.1 + i1) nc)[X.1 + i1]? = some _ from ?_) oq
    rw [hcell]
    simp [Array.getElem?_setIfInBounds, ha]
  have hS1 : ∀ L : List Loc, (∀ q ∈ L, q.base = X.1 + i1) → va_S (fun q => X.1 ≤ q) s.heap (H.setIfInBounds (X.1 + i1) nc) (locs ++ L) := fun L hL => ⟨by simp; exact hS.1, fun q g1 g2 => by
      rw [oq q (fun e => g2 (by rw [e]; omega))]
      exact hS.2.1 q g1 g2, fun q hq => by
      rcases List.mem_append.mp hq with h | h
      · exact hS.2.2 q h
      · rw [hL q h]
        omega⟩
  obtain ⟨t, a1, b1⟩ := kk p l e s m args below meth c _ _ la hF ⟨hP1, by simp; exact hP.2.1, hin, hP.2.2.2⟩ (hS1 _ (fun q hq => by
      obtain ⟨z, -, hz⟩ := List.mem_map.mp hq
      rw [← hz])) hH _ hheap X'
  exact ⟨t, step t a1, b1⟩
theorem sv_max {idx : Nat} {x y : Int} (hl : Cond.methodLink M.1.cls idx Lib.Math.max.name ∈ lw_tbl) (hw : Cond.static Lib.Math.max.name ∈ lw_tbl ∧ Cond.initialized "java/lang/Math" ∈ lw_tbl ∧ Cond.code Lib.Math.max.name Lib.Math.max.code 2 (some .int) ∈ lw_tbl) (hst : 2 * st.length ≤ 8) (hR : 1 ≤ R.frames ∧ 36 ≤ R.locals) (hc : kc ≤ R.cells ∧ ks ≤ R.slots) (hx : sv_in x) (hy : sv_in y) (hd : decode M.2.1 pc = .ok (.invokestatic idx, 3))
    (kk : sv_T X R M Z kc ks (pc + 3) ls (sv_i (max x y) :: st) S f r g) : sv_T X R M Z kc ks pc ls (sv_i y :: sv_i x :: st) S f r g := by
  intro p l e s m args below meth c H locs la hF hP hS hH
  have hwt := hF.2.2.2.2.2.2.2.1.1
  have hkk := kk p l e s m args below meth c H locs la hF hP hS hH
  have hcat := sv_sum (b := X.1) hst
  refine va_mmax hF.1 hF.2.1 (by rw [hF.2.2.2.1]; exact hH.1.symm) hF.2.2.2.2.1 (hwt.use hl rfl) (hwt.use hw.1 rfl) (hwt.use hw.2.1 rfl) (hwt.use hw.2.2 rfl) hR.1 (by omega) hc.1 hc.2 hd ?_
  have e : (if Int32.ofInt x < Int32.ofInt y then Int32.ofInt y else Int32.ofInt x) = Int32.ofInt (max x y) := by
    by_cases h : x < y
    · rw [if_pos ((sv_ltI hx hy).mpr h), show max x y = y by omega]
    · rw [if_neg (fun q => h ((sv_ltI hx hy).mp q)), show max x y = x by omega]
  rw [e]
  exact hkk
theorem sv_min {idx : Nat} {x y : Int} (hl : Cond.methodLink M.1.cls idx Lib.Math.min.name ∈ lw_tbl) (hw : Cond.static Lib.Math.min.name ∈ lw_tbl ∧ Cond.initialized "java/lang/Math" ∈ lw_tbl ∧ Cond.code Lib.Math.min.name Lib.Math.min.code 2 (some .int) ∈ lw_tbl) (hst : 2 * st.length ≤ 8) (hR : 1 ≤ R.frames ∧ 36 ≤ R.locals) (hc : kc ≤ R.cells ∧ ks ≤ R.slots) (hx : sv_in x) (hy : sv_in y) (hd : decode M.2.1 pc = .ok (.invokestatic idx, 3))
    (kk : sv_T X R M Z kc ks (pc + 3) ls (sv_i (min x y) :: st) S f r g) : sv_T X R M Z kc ks pc ls (sv_i y :: sv_i x :: st) S f r g := by
  intro p l e s m args below meth c H locs la hF hP hS hH
  have hwt := hF.2.2.2.2.2.2.2.1.1
  have hkk := kk p l e s m args below meth c H locs la hF hP hS hH
  have hcat := sv_sum (b := X.1) hst
  refine va_mmin hF.1 hF.2.1 (by rw [hF.2.2.2.1]; exact hH.1.symm) hF.2.2.2.2.1 (hwt.use hl rfl) (hwt.use hw.1 rfl) (hwt.use hw.2.1 rfl) (hwt.use hw.2.2 rfl) hR.1 (by omega) hc.1 hc.2 hd ?_
  have e : (if Int32.ofInt y < Int32.ofInt x then Int32.ofInt y else Int32.ofInt x) = Int32.ofInt (min x y) := by
    by_cases h : y < x
    · rw [if_pos ((sv_ltI hy hx).mpr h), show min x y = y by omega]
    · rw [if_neg (fun q => h ((sv_ltI hy hx).mp q)), show min x y = x by omega]
  rw [e]
  exact hkk
theorem sv_callI {M' : sv_M} {idx d mc ms i n : Nat} {As rest : List sv_V} {Q : sv_Q} (hl : sv_cI M.1.cls idx M' n) (hM : sv_C X d M' mc ms (sv_r i :: As) S f r g Q) (hR : d + 1 ≤ R.frames ∧ 8 + (M'.2.2.1 + 11) + 36 * d ≤ R.locals) (hc : kc + mc ≤ R.cells ∧ ks + ms ≤ R.slots) (hn : As.length = n) (hst : 2 * rest.length ≤ 8) (hd : decode M.2.1 pc = .ok (.invokespecial idx, 3))
    (kk : ∀ (rv : Option sv_V) (S' : sv_S) (f' : sv_F) (r' : sv_R) (g' : sv_G), Q rv S' f' r' g' → sv_T X R M Z (kc + mc) (ks + ms) (pc + 3) ls (rv.toList ++ rest) S' f' r' g') : sv_T X R M Z kc ks pc ls (As.reverse ++ sv_r i :: rest) S f r g := by
  intro p l e s m args below meth c H locs la hF hP hS hH
  have hKK := hF.2.2.2.2.2.2.2.1
  have hz := hF.2.2.2.2.2.2.2.2
  obtain ⟨⟨h1, h2, h3, h4, h5⟩, h6, h7, h8⟩ := hl
  have hwt := hKK.1
  have hcat := sv_roomy (m := m) (pc := pc) (la := la) (b := X.1) hst
  have go : va_Run p l e R s m args below meth c H locs kc ks mc ms (F0 m pc la ((As.reverse ++ sv_r i :: rest).map (sv_cv X.1))) (rest.map (sv_cv X.1)) (sv_Qc X Q (Value.ref (X.1 + i) :: As.map (sv_cv X.1)).toArray) (fun q => X.1 ≤ q) := by
    have hpv : PreS s H (va_Pc ((sv_r i :: As).map (sv_cv X.1)) (sv_Pc X S f r g)) (.ref (X.1 + i) :: As.map (sv_cv X.1)) := ⟨sv_blind, fun U hU hW => sv_pc hKK hz hS hP U hU hW⟩
    have hnp : ∀ sig, parseMethodDescriptor M'.1.desc = some sig → n = sig.parameters.length := fun sig hs => by
      rw [hs] at h4
      exact (Option.some.inj h4).symm
    have hstk : (F0 m pc la ((As.reverse ++ sv_r i :: rest).map (sv_cv X.1))).stack = (As.map (sv_cv X.1)).reverse ++ .ref (X.1 + i) :: rest.map (sv_cv X.1) := by
      show (As.reverse ++ sv_r i :: rest).map (sv_cv X.1) = _
      rw [List.map_append, List.map_reverse]
      rfl
    have hM' := hM l
    rw [h8] at hM' h1
    rcases h5 with h5 | ⟨host, h5⟩
    · exact va_runI (Ts := []) ⟨hF.1, hF.2.1, hF.2.2.2.1, hF.2.2.2.2.1, fun _ h => by cases h⟩ hM' ⟨⟨rfl, rfl, hR.1, hR.2, sv_good (M' := (M'.1, M'.2.1, M'.2.2.1, none)) hwt h1, List.mem_cons_self, hwt.use h1 rfl, hwt.use h2 rfl, h3, hnp, hwt.use h5 rfl⟩, h7, hwt.use h6 rfl⟩ hpv rfl (by rw [List.length_map]; exact hn) hH.1 hstk hcat hd hc
    · exact va_runIN (Ts := []) ⟨hF.1, hF.2.1, hF.2.2.2.1, hF.2.2.2.2.1, fun _ h => by cases h⟩ hM' ⟨⟨⟨rfl, rfl, hR.1, hR.2, sv_good (M' := (M'.1, M'.2.1, M'.2.2.1, none)) hwt h1, List.mem_cons_self⟩, hwt.use h1 rfl, hwt.use h2 rfl, h3, hnp, hwt.use h5 (by unfold sv_ok; exact Bool.or_true _)⟩, h7, hwt.use h6 rfl⟩ hpv rfl (by rw [List.length_map]; exact hn) hH.1 hstk hcat hd hc
  refine sv_goes go hS fun rv S' f' r' g' H1 locs1 hq hP1 hS1 => ?_
  have := kk rv S' f' r' g' hq p l e s m args below meth c H1 locs1 la hF hP1 hS1 hH
  rw [List.map_append] at this
  cases rv <;> exact this
theorem sv_objinit {idx i : Nat} (hl : Cond.methodLink M.1.cls idx Lib.objectInit ∈ lw_tbl) (hw : Cond.instanceMethod Lib.objectInit ∈ lw_tbl ∧ Cond.code Lib.objectInit ⟨#[0xb1]⟩ 1 none ∈ lw_tbl) (hst : 2 * st.length ≤ 8) (hR : 1 ≤ R.frames ∧ 36 ≤ R.locals) (hd : decode M.2.1 pc = .ok (.invokespecial idx, 3)) (kk : sv_T X R M Z kc ks (pc + 3) ls st S f r g) : sv_T X R M Z kc ks pc ls (sv_r i :: st) S f r g := by
  intro p l e s m args below meth c H locs la hF hP hS hH
  have hwt := hF.2.2.2.2.2.2.2.1.1
  have hkk := kk p l e s m args below meth c H locs la hF hP hS hH
  have hcat := sv_roomy (m := m) (pc := pc) (la := la) (b := X.1) hst
  exact W.objInit hF.1 hF.2.1 hF.2.2.2.2.1 (hwt.use hl rfl) (hwt.use hw.1 rfl) (hwt.use hw.2 rfl) (g := F0 m pc la ((sv_r i :: st).map (sv_cv X.1))) rfl (by rw [hF.2.2.2.1]; exact hH.1) (a := X.1 + i) (rest := st.map (sv_cv X.1)) rfl hd hR.1 (by have h9 : (F0 m pc la ((sv_r i :: st).map (sv_cv X.1))).monitorRoom = (F0 m pc la []).monitorRoom := rfl; rw [h9]; omega) hkk
end SVMORE
