/-- one thing more -/
def sv_S1 (S : sv_S) (k n : Nat) : sv_S := (S.1 + 1, fun x => if x = S.1 then (k, n) else S.2 x)
/-- nothing is written behind what there is -/
def sv_bl (S : sv_S) (f : sv_F) (r : sv_R) (g : sv_G) : Prop := ∀ x, S.1 ≤ x → f x = (fun _ => 0) ∧ r x = (fun _ => none) ∧ g x = fun _ => 0
theorem sv_S1_lt {S : sv_S} {k n x : Nat} (h : x < S.1) : (sv_S1 S k n).2 x = S.2 x := if_neg (by omega)
theorem sv_S1_eq {S : sv_S} {k n : Nat} : (sv_S1 S k n).2 S.1 = (k, n) := if_pos rfl
theorem sv_bl.one {S : sv_S} {f : sv_F} {r : sv_R} {g : sv_G} {k n : Nat} (h : sv_bl S f r g) : sv_bl (sv_S1 S k n) f r g := fun x hx => h x (by have : (sv_S1 S k n).1 = S.1 + 1 := rfl; omega)
theorem sv_P.grow {X : sv_X} {S S' : sv_S} {f : sv_F} {r r' : sv_R} {g : sv_G} {H H1 : Heap} (hP : sv_P X S f r g H) (hsz : H1.size = X.1 + S'.1) (ho : ∀ q, q < H.size → H1[q]? = H[q]?) (hsame : ∀ k, k < S.1 → S'.2 k = S.2 k ∧ r' k = r k) (hnew : ∀ k, S.1 ≤ k → k < S'.1 → va_at X.2.1 vwCl (X.1 + k, sv_e X (S'.2 k) (f k) (r' k) (g k)) H1) (hlen : ∀ i, (S'.2 i).2 ≤ 100000) : sv_P X S' f r' g H1 := by
  refine ⟨fun k q hq => ?_, hsz, hP.2.2.1, hlen⟩
  by_cases hk : k < S'.1
  · rw [sv_ws_get hk] at hq
    cases hq
    by_cases h : k < S.1
    · obtain ⟨e1, e2⟩ := hsame k h
      rw [e1, e2]
      have h0 := sv_ws_get (X := X) (S := S) (f := f) (r := r) (g := g) h
      exact (hP.1 k _ h0).kept (ho _ (hP.1 k _ h0).lt)
    · exact hnew k (by omega) hk
  · rw [sv_ws_none hk] at hq; cases hq
theorem sv_grown {X : sv_X} {s : State} {H H1 : Heap} {locs : List Loc} (hS : va_S (fun q => X.1 ≤ q) s.heap H locs) (hz : H.size ≤ H1.size) (ho : ∀ q, q < H.size → H1[q]? = H[q]?) : va_S (fun q => X.1 ≤ q) s.heap H1 locs := ⟨Nat.le_trans hS.1 hz, fun x h1 h2 => (ho x (Nat.lt_of_lt_of_le h1 hS.1)).trans (hS.2.1 x h1 h2), hS.2.2⟩
theorem sv_dfl {b : Nat} : ∀ ci, ci < 6 → ∀ k, k < sv_cn ci → defaultValue (sv_ty ci k) = sv_fv b (sv_ty ci k) 0 none 0 := by
  intro ci hci
  rcases (show ci = 0 ∨ ci = 1 ∨ ci = 2 ∨ ci = 3 ∨ ci = 4 ∨ ci = 5 by omega) with rfl | rfl | rfl | rfl | rfl | rfl
  · intro k (hk : k < 7)
    rcases (show k = 0 ∨ k = 1 ∨ k = 2 ∨ k = 3 ∨ k = 4 ∨ k = 5 ∨ k = 6 by omega) with rfl | rfl | rfl | rfl | rfl | rfl | rfl <;> rfl
  · intro k (hk : k < 7)
    rcases (show k = 0 ∨ k = 1 ∨ k = 2 ∨ k = 3 ∨ k = 4 ∨ k = 5 ∨ k = 6 by omega) with rfl | rfl | rfl | rfl | rfl | rfl | rfl <;> rfl
  · intro k (hk : k < 2)
    rcases (show k = 0 ∨ k = 1 by omega) with rfl | rfl <;> rfl
  · intro k (hk : k < 6)
    rcases (show k = 0 ∨ k = 1 ∨ k = 2 ∨ k = 3 ∨ k = 4 ∨ k = 5 by omega) with rfl | rfl | rfl | rfl | rfl | rfl <;> rfl
  · intro k (hk : k < 7)
    rcases (show k = 0 ∨ k = 1 ∨ k = 2 ∨ k = 3 ∨ k = 4 ∨ k = 5 ∨ k = 6 by omega) with rfl | rfl | rfl | rfl | rfl | rfl | rfl <;> rfl
  · intro k (hk : k < 0)
    omega
theorem sv_outer (c : ClassId) (N h0 : Nat) : ∀ i : Nat, Jvm.Free.Multi.outerC c N h0 i = arrV c N (fun j => va_rf (if j < i then some (h0 + 1 + j) else none)) := by
  intro i
  induction i with
  | zero =>
    show ({ cls := c, slots := Array.replicate N .null, vm := .none } : Cell) = _
    rw [arrV_new]
    refine congrArg (arrV c N) (funext fun j => ?_)
    simp [va_rf]
  | succ i ih =>
    show (Jvm.Free.Multi.outerC c N h0 i).setSlot i (.ref (h0 + 1 + i)) = _
    rw [ih, arrV_store]
    refine congrArg (arrV c N) (funext fun j => ?_)
    by_cases e : j = i
    · subst e; simp [updV, va_rf]
    · simp only [updV, if_neg e]
      by_cases e2 : j < i
      · rw [if_pos e2, if_pos (by omega)]
      · rw [if_neg e2, if_neg (by omega)]
section SVALLOC
variable {X : sv_X} {R : Room} {M : sv_M} {Z : sv_Z} {kc ks : Nat} {pc : Nat} {ls : sv_L} {st : List sv_V} {S : sv_S} {f : sv_F} {r : sv_R} {g : sv_G}
theorem sv_new {ci idx : Nat} {q : vw_C} (hcb : sv_cb ci q) (hcl : Cond.classLink M.1.cls idx q.1 ∈ lw_tbl ∧ Cond.instantiable q.1 q.2.2 ∈ lw_tbl ∧ Cond.initialized q.1 ∈ lw_tbl) (hd : decode M.2.1 pc = .ok (.new idx, 3)) (hb : sv_bl S f r g) (hc : kc + 1 ≤ R.cells ∧ ks + q.2.2 ≤ R.slots) (kk : sv_T X R M Z (kc + 1) (ks + q.2.2) (pc + 3) ls (sv_r S.1 :: st) (sv_S1 S ci 0) f r g) : sv_T X R M Z kc ks pc ls st S f r g := by
  intro p l e s m args below meth c H locs la hF hP hS hH
  obtain ⟨C, T, N⟩ := q
  obtain ⟨c1, c2, c3, c4, c5, c6⟩ := hcb
  have hKK := hF.2.2.2.2.2.2.2.1
  have hwt := hKK.1
  have hKn := hKK.2.1.1 ci _ c1
  have hts : ∀ w ∈ u_ws C T N, w.before args s = true := fun w h => hwt.use (c4 w h) (sv_lay_ok w h)
  refine W.newcK hF.1 hF.2.1 hF.2.2.2.2.1 (hwt.use hcl.1 rfl) (hwt.use hcl.2.1 rfl) (hwt.use hcl.2.2 rfl) rfl hd hc.1 hc.2 hKn.2.1 hP.2.1 fun H1 kC hkC e1 z1 o1 => ?_
  have ho : ∀ q, q < H.size → H1[q]? = H[q]? := fun q hq => o1 q (by rw [← hP.2.1]; exact hq)
  obtain ⟨b1, b2, b3⟩ := hb S.1 (Nat.le_refl _)
  have hP1 : sv_P X (sv_S1 S ci 0) f r g H1 := by
    refine hP.grow (by rw [z1]; exact Nat.add_assoc _ _ _) ho (fun k hk => ⟨sv_S1_lt hk, rfl⟩) (fun k h1 h2 => ?_) (fun i => ?_)
    · obtain rfl : k = S.1 := by have : (sv_S1 S ci 0).1 = S.1 + 1 := rfl; omega
      rw [sv_S1_eq, sv_e_obj rfl c3, b1, b2, b3]
      exact ⟨_, c1, (u_born (sv_ty ci) hts (fun _ h => h) hKn hkC e1 c5).to fun j hj => by
        have hj' : j < sv_cn ci := by rw [← c2]; exact hj
        rw [sv_dfl (b := X.1) ci c3 j hj']
        have := sv_fs_get (b := X.1) (fi := fun _ => 0) (ri := fun _ => none) (gi := fun _ => 0) hj'
        unfold vp_V
        rw [List.getD_eq_getElem?_getD, this]
        rfl⟩
    · by_cases h : i = S.1
      · rw [h, sv_S1_eq]; exact Nat.zero_le _
      · rw [show (sv_S1 S ci 0).2 i = S.2 i from if_neg h]; exact hP.2.2.2 i
  exact kk p l e s m args below meth c H1 locs la hF hP1 (sv_grown hS (by rw [z1, hP.2.1]; omega) ho) hH
theorem sv_nat32 {n : Int} {N : Nat} (hn : n = (N : Int)) (hN : N ≤ 100000) : ¬ Int32.ofInt n < 0 ∧ (Int32.ofInt n).toNatClampNeg = N := by
  subst hn
  refine ⟨fun h => ?_, ?_⟩
  · have := (sv_ltI (x := (N : Int)) (y := 0) (by unfold sv_in; omega) (by unfold sv_in; omega)).mp h
    omega
  · rw [← Int32.toNat_toInt, sv_toInt (by unfold sv_in; omega)]
    omega
theorem sv_newI {n : Int} {N : Nat} (hn : n = (N : Int)) (hN : N ≤ 100000) (hd : decode M.2.1 pc = .ok (.newarray .int, 2)) (hb : sv_bl S f r g) (hc : kc + 1 ≤ R.cells ∧ ks + N ≤ R.slots) (harr : Cond.arrayClass .int ∈ lw_tbl) (kk : sv_T X R M Z (kc + 1) (ks + N) (pc + 2) ls (sv_r S.1 :: st) (sv_S1 S 6 N) f r g) : sv_T X R M Z kc ks pc ls (sv_i n :: st) S f r g := by
  intro p l e s m args below meth c H locs la hF hP hS hH
  have hKK := hF.2.2.2.2.2.2.2.1
  have hwt := hKK.1
  obtain ⟨n1, n2⟩ := sv_nat32 hn hN
  refine va_newaK hF.1 hF.2.1 (atype := .int) (hwt.use harr (by unfold sv_ok; exact Bool.or_true _)) rfl hd rfl n1 n2 (by show N * 4 ≤ _; omega) hc.1 hc.2 hP.2.1 fun H1 cA e1 z1 o1 hA hf => ?_
  have hcA : cA = X.2.2.1 0 := Option.some.inj (hf.symm.trans (hKK.2.1.2 0 _ rfl).2)
  subst hcA
  have ho : ∀ q, q < H.size → H1[q]? = H[q]? := fun q hq => o1 q (by rw [← hP.2.1]; exact hq)
  obtain ⟨b1, b2, b3⟩ := hb S.1 (Nat.le_refl _)
  have hP1 : sv_P X (sv_S1 S 6 N) f r g H1 := by
    refine hP.grow (by rw [z1]; exact Nat.add_assoc _ _ _) ho (fun k hk => ⟨sv_S1_lt hk, rfl⟩) (fun k h1 h2 => ?_) (fun i => ?_)
    · obtain rfl : k = S.1 := by have : (sv_S1 S 6 N).1 = S.1 + 1 := rfl; omega
      rw [sv_S1_eq, sv_e_int, b1]
      exact e1
    · by_cases h : i = S.1
      · rw [h, sv_S1_eq]; exact hN
      · rw [show (sv_S1 S 6 N).2 i = S.2 i from if_neg h]; exact hP.2.2.2 i
  exact kk p l e s m args below meth c H1 locs la hF hP1 (sv_grown hS (by rw [z1, hP.2.1]; omega) ho) hH
def sv_cAn (t : Nat) : String := if t = 0 then "StateVault$Kept" else "StateVault$Moment"
theorem sv_newA {n : Int} {N t idx : Nat} (ht : t < 2) (hn : n = (N : Int)) (hN : N ≤ 100000) (hd : decode M.2.1 pc = .ok (.anewarray idx, 3)) (hb : sv_bl S f r g) (hc : kc + 1 ≤ R.cells ∧ ks + N ≤ R.slots) (hcl : Cond.classLink M.1.cls idx (sv_cAn t) ∈ lw_tbl) (kk : sv_T X R M Z (kc + 1) (ks + N) (pc + 3) ls (sv_r S.1 :: st) (sv_S1 S (8 + t) N) f r g) : sv_T X R M Z kc ks pc ls (sv_i n :: st) S f r g := by
  intro p l e s m args below meth c H locs la hF hP hS hH
  have hKK := hF.2.2.2.2.2.2.2.1
  have hwt := hKK.1
  obtain ⟨n1, n2⟩ := sv_nat32 hn hN
  have hAO : va_AO (sv_cAn t) s := by
    rcases (show t = 0 ∨ t = 1 by omega) with rfl | rfl
    · exact hKK.2.2.2.1
    · exact hKK.2.2.2.2.1
  have hty : (sv_tys X)[2 + t]? = some (X.2.2.1 (2 + t), .object (sv_cAn t)) := by
    rcases (show t = 0 ∨ t = 1 by omega) with rfl | rfl <;> rfl
  refine W.anew hF.1 hF.2.1 hF.2.2.2.2.1 (hwt.use hcl rfl) (va_AO.use hAO) rfl hd rfl n1 (by rw [n2]; omega) hc.1 (by rw [n2]; exact hc.2) fun cA kA comp g1 g2 g3 g4 => ?_
  obtain ⟨kA', comp', -, -, -, q4⟩ := (hKK.2.1.2 _ _ hty).2
  have hcA : cA = X.2.2.1 (2 + t) := Option.some.inj (g1.symm.trans q4)
  subst hcA
  rw [n2]
  generalize hH1 : H.push ({ cls := X.2.2.1 (2 + t), slots := Array.replicate N .null, vm := .none } : Cell) = H1
  have z1 : H1.size = H.size + 1 := by rw [← hH1, Array.size_push]
  have e1 : H1[H.size]? = some (arrV (X.2.2.1 (2 + t)) N (fun _ => .null)) := by rw [← hH1, Array.getElem?_push_size, ← arrV_new]
  have ho : ∀ q : Nat, q < H.size → H1[q]? = H[q]? := fun q hq => by rw [← hH1, Array.getElem?_push, if_neg (Nat.ne_of_lt hq)]
  obtain ⟨b1, b2, b3⟩ := hb S.1 (Nat.le_refl _)
  have hP1 : sv_P X (sv_S1 S (8 + t) N) f r g H1 := by
    refine hP.grow (by rw [z1, hP.2.1]; exact Nat.add_assoc _ _ _) ho (fun k hk => ⟨sv_S1_lt hk, rfl⟩) (fun k h1 h2 => ?_) (fun i => ?_)
    · obtain rfl : k = S.1 := by have : (sv_S1 S (8 + t) N).1 = S.1 + 1 := rfl; omega
      rw [sv_S1_eq, sv_e_ref, b2]
      show H1[X.1 + S.1]? = _
      rw [← hP.2.1]
      exact e1
    · by_cases h : i = S.1
      · rw [h, sv_S1_eq]; exact hN
      · rw [show (sv_S1 S (8 + t) N).2 i = S.2 i from if_neg h]; exact hP.2.2.2 i
  have hkk := kk p l e s m args below meth c H1 locs la hF hP1 (sv_grown hS (by rw [z1]; omega) ho) hH
  rw [hP.2.1]
  exact hkk
/-- an array of N rows of K ints -/
def sv_S2 (S : sv_S) (N K : Nat) : sv_S := (S.1 + 1 + N, fun x => if x = S.1 then (10, N) else if S.1 < x ∧ x ≤ S.1 + N then (6, K) else S.2 x)
def sv_r2 (S : sv_S) (r : sv_R) (N : Nat) : sv_R := fun x y => if x = S.1 then (if 0 ≤ y ∧ y < (N : Int) then some (S.1 + 1 + y.toNat) else none) else r x y
theorem sv_mna {n k : Int} {N K idx : Nat} (hn : n = (N : Int)) (hk : k = (K : Int)) (hN : N ≤ 1000) (hK : K ≤ 1000) (hd : decode M.2.1 pc = .ok (.multianewarray idx 2, 4)) (hb : sv_bl S f r g) (hc : kc + (1 + N) ≤ R.cells ∧ ks + (N + N * K) ≤ R.slots) (hcl : Cond.classLink M.1.cls idx "[[I" ∈ lw_tbl) (harr : Cond.arrayClass .int ∈ lw_tbl) (kk : sv_T X R M Z (kc + 1 + N) (ks + N + N * K) (pc + 4) ls (sv_r S.1 :: st) (sv_S2 S N K) f (sv_r2 S r N) g) : sv_T X R M Z kc ks pc ls (sv_i k :: sv_i n :: st) S f r g := by
  intro p l e s m args below meth c H locs la hF hP hS hH
  have hKK := hF.2.2.2.2.2.2.2.1
  have hwt := hKK.1
  obtain ⟨n1, n2⟩ := sv_nat32 hn (by omega)
  obtain ⟨k1, k2⟩ := sv_nat32 hk (by omega)
  intro T hT Xs
  obtain ⟨vm₁, cA, comp, -, fA, fC, -, -, X', step⟩ := Xs.multianewarray2F (ty := .int) hF.1 hF.2.2.2.2.1 (hwt.use hcl rfl) hKK.2.2.2.2.2 (hwt.use harr (by unfold sv_ok; exact Bool.or_true _)) (g := F0 m pc la ((sv_i k :: sv_i n :: st).map (sv_cv X.1))) rfl (by rw [hF.2.1]; exact hd) rfl n1 k1 (by rw [n2]; omega) (by rw [k2]; show K * 4 ≤ _; omega) (by rw [k2]; omega) rfl rfl (by rw [n2]; exact hc.1) (by rw [n2, k2]; exact hc.2)
  have hcomp : comp = X.2.2.1 0 := Option.some.inj (fC.symm.trans (hKK.2.1.2 0 _ rfl).2)
  have hcA : cA = X.2.2.1 4 := Option.some.inj (fA.symm.trans (hKK.2.1.2 4 _ rfl).2)
  subst hcomp
  subst hcA
  rw [n2, k2] at X' step
  generalize hFF : Jvm.Free.Multi.fill (T.setVm vm₁) (X.2.2.1 4) (X.2.2.1 0) N K (defaultValue .int) N = F at X' step
  have hTh : (T.setVm vm₁).heap = H := hT
  obtain ⟨f1, f2, -, -⟩ := Jvm.Free.Multi.fill_facts (T.setVm vm₁) (X.2.2.1 4) (X.2.2.1 0) N K (defaultValue .int) N
  rw [hFF, hTh] at f1 f2
  have ho : ∀ x : Nat, x < H.size → F.heap[x]? = H[x]? := fun x hx => by
    have := Jvm.Free.Multi.fill_old (T.setVm vm₁) (X.2.2.1 4) (X.2.2.1 0) N K (defaultValue .int) (a := x) (by rw [hTh]; exact hx) N
    rw [hFF, hTh] at this
    exact this
  have hrow : ∀ j : Nat, j < N → F.heap[H.size + 1 + j]? = some (Jvm.Free.Multi.innerC (X.2.2.1 0) K (defaultValue .int)) := fun j hj => by
    have := Jvm.Free.Multi.fill_inner (T.setVm vm₁) (X.2.2.1 4) (X.2.2.1 0) N K (defaultValue .int) N j hj
    rw [hFF, hTh] at this
    exact this
  rw [sv_outer] at f2
  have e1 : (sv_S2 S N K).1 = S.1 + 1 + N := rfl
  have hP1 : sv_P X (sv_S2 S N K) f (sv_r2 S r N) g F.heap := by
    refine hP.grow (by rw [f1, hP.2.1, e1]; omega) ho (fun x hx => ⟨?_, ?_⟩) (fun x h1 h2 => ?_) (fun i => ?_)
    · show (if x = S.1 then _ else if _ then _ else _) = _
      rw [if_neg (by omega), if_neg (by omega)]
    · funext y; exact if_neg (by omega)
    · rw [e1] at h2
      by_cases h : x = S.1
      · subst h
        rw [show (sv_S2 S N K).2 S.1 = (8 + 2, N) from if_pos rfl, sv_e_ref]
        show F.heap[X.1 + S.1]? = _
        rw [← hP.2.1, f2, vp_cell_q]
        refine congrArg some ?_
        show arrV (X.2.2.1 4) N _ = arrV (X.2.2.1 4) N _
        refine congrArg (arrV (X.2.2.1 4) N) (funext fun j => ?_)
        refine congrArg va_rf ?_
        show _ = ((if S.1 = S.1 then (if 0 ≤ (j : Int) ∧ (j : Int) < (N : Int) then some (S.1 + 1 + (j : Int).toNat) else none) else r S.1 j) : Option Nat).map (X.1 + ·)
        rw [if_pos rfl]
        by_cases hj : j < N
        · rw [if_pos hj, if_pos (by omega), Option.map_some]
          exact congrArg some (by rw [hP.2.1]; simp; omega)
        · rw [if_neg hj, if_neg (by omega)]; rfl
      · obtain ⟨b1, b2, b3⟩ := hb x h1
        rw [show (sv_S2 S N K).2 x = (6, K) by show (if x = S.1 then _ else if _ then _ else _) = _; rw [if_neg h, if_pos (by omega)], sv_e_int, b1]
        have := hrow (x - S.1 - 1) (by omega)
        rw [hP.2.1, show X.1 + S.1 + 1 + (x - S.1 - 1) = X.1 + x by omega] at this
        show F.heap[X.1 + x]? = _
        rw [this]
        refine congrArg some ?_
        show ({ cls := X.2.2.1 0, slots := Array.replicate K (defaultValue .int), vm := .none } : Cell) = _
        rw [arrV_new]
        rfl
    · show ((if i = S.1 then _ else if _ then _ else _) : Nat × Nat).2 ≤ _
      split
      · show N ≤ 100000; omega
      · split
        · show K ≤ 100000; omega
        · exact hP.2.2.2 i
  obtain ⟨t, a1, b1⟩ := kk p l e s m args below meth c F.heap locs la hF hP1 (sv_grown hS (by rw [f1]; omega) ho) hH F rfl X'
  refine ⟨t, step t ?_, b1⟩
  have : T.heap.size = X.1 + S.1 := by rw [← hP.2.1, ← hT]
  rw [this]
  exact a1
end SVALLOC
section SVALLOC2
variable {X : sv_X} {R : Room} {M : sv_M} {Z : sv_Z} {kc ks : Nat} {pc : Nat} {ls : sv_L} {st : List sv_V} {S : sv_S} {f : sv_F} {r : sv_R} {g : sv_G}
theorem sv_bl.u {i : Nat} {j a : Int} (h : sv_bl S f r g) (hi : i < S.1) : sv_bl S (sv_u f i j a) r g := fun x hx => by
  obtain ⟨b1, b2, b3⟩ := h x hx
  exact ⟨by rw [sv_u_ne (by omega)]; exact b1, b2, b3⟩
theorem sv_bl.ur {i : Nat} {j : Int} {a : Option Nat} (h : sv_bl S f r g) (hi : i < S.1) : sv_bl S f (sv_ur r i j a) g := fun x hx => by
  obtain ⟨b1, b2, b3⟩ := h x hx
  exact ⟨b1, by rw [sv_ur_ne (by omega)]; exact b2, b3⟩
/-- S' is S and one thing more, at a -/
def sv_gr (S S' : sv_S) (a k n : Nat) : Prop := S'.1 = a + 1 ∧ S'.2 a = (k, n) ∧ ∀ x, x < a → S'.2 x = S.2 x
theorem sv_gr_S1 {k n : Nat} : sv_gr S (sv_S1 S k n) S.1 k n := ⟨rfl, sv_S1_eq, fun _ h => sv_S1_lt h⟩
theorem sv_aI {n : Int} {N a : Nat} (ha : S.1 = a) (hn : n = (N : Int)) (hN : N ≤ 100000) (hd : decode M.2.1 pc = .ok (.newarray .int, 2)) (hb : sv_bl S f r g) (hc : kc + 1 ≤ R.cells ∧ ks + N ≤ R.slots) (harr : Cond.arrayClass .int ∈ lw_tbl) (kk : ∀ S' : sv_S, sv_gr S S' a 6 N → sv_bl S' f r g → sv_T X R M Z (kc + 1) (ks + N) (pc + 2) ls (sv_r a :: st) S' f r g) : sv_T X R M Z kc ks pc ls (sv_i n :: st) S f r g := by
  subst ha
  exact sv_newI hn hN hd hb hc harr (kk _ sv_gr_S1 hb.one)
theorem sv_aA {n : Int} {N t idx a : Nat} (ht : t < 2) (ha : S.1 = a) (hn : n = (N : Int)) (hN : N ≤ 100000) (hd : decode M.2.1 pc = .ok (.anewarray idx, 3)) (hb : sv_bl S f r g) (hc : kc + 1 ≤ R.cells ∧ ks + N ≤ R.slots) (hcl : Cond.classLink M.1.cls idx (sv_cAn t) ∈ lw_tbl) (kk : ∀ S' : sv_S, sv_gr S S' a (8 + t) N → sv_bl S' f r g → sv_T X R M Z (kc + 1) (ks + N) (pc + 3) ls (sv_r a :: st) S' f r g) : sv_T X R M Z kc ks pc ls (sv_i n :: st) S f r g := by
  subst ha
  exact sv_newA ht hn hN hd hb hc hcl (kk _ sv_gr_S1 hb.one)
theorem sv_aO {ci idx a : Nat} {q : vw_C} (hcb : sv_cb ci q) (ha : S.1 = a) (hcl : Cond.classLink M.1.cls idx q.1 ∈ lw_tbl ∧ Cond.instantiable q.1 q.2.2 ∈ lw_tbl ∧ Cond.initialized q.1 ∈ lw_tbl) (hd : decode M.2.1 pc = .ok (.new idx, 3)) (hb : sv_bl S f r g) (hc : kc + 1 ≤ R.cells ∧ ks + q.2.2 ≤ R.slots) (kk : ∀ S' : sv_S, sv_gr S S' a ci 0 → sv_bl S' f r g → sv_T X R M Z (kc + 1) (ks + q.2.2) (pc + 3) ls (sv_r a :: st) S' f r g) : sv_T X R M Z kc ks pc ls st S f r g := by
  subst ha
  exact sv_new hcb hcl hd hb hc (kk _ sv_gr_S1 hb.one)
theorem sv_aM {n k : Int} {N K idx a : Nat} (ha : S.1 = a) (hn : n = (N : Int)) (hk : k = (K : Int)) (hN : N ≤ 1000) (hK : K ≤ 1000) (hd : decode M.2.1 pc = .ok (.multianewarray idx 2, 4)) (hb : sv_bl S f r g) (hc : kc + (1 + N) ≤ R.cells ∧ ks + (N + N * K) ≤ R.slots) (hcl : Cond.classLink M.1.cls idx "[[I" ∈ lw_tbl) (harr : Cond.arrayClass .int ∈ lw_tbl) (kk : ∀ (S' : sv_S) (r' : sv_R), S'.1 = a + 1 + N → S'.2 a = (10, N) → (∀ p : Nat, p < N → S'.2 (a + 1 + p) = (6, K)) → (∀ x, x < a → S'.2 x = S.2 x) → (∀ p : Nat, p < N → r' a (p : Int) = some (a + 1 + p)) → (∀ x, x ≠ a → r' x = r x) → sv_bl S' f r' g → sv_T X R M Z (kc + 1 + N) (ks + N + N * K) (pc + 4) ls (sv_r a :: st) S' f r' g) : sv_T X R M Z kc ks pc ls (sv_i k :: sv_i n :: st) S f r g := by
  subst ha
  refine sv_mna hn hk hN hK hd hb hc hcl harr (kk _ _ rfl (if_pos rfl) (fun p hp => ?_) (fun x hx => ?_) (fun p hp => ?_) (fun x hx => ?_) (fun x hx => ?_))
  · show (if S.1 + 1 + p = S.1 then _ else if _ then _ else _) = _
    rw [if_neg (by omega), if_pos (by omega)]
  · show (if x = S.1 then _ else if _ then _ else _) = _
    rw [if_neg (by omega), if_neg (by omega)]
  · show (if S.1 = S.1 then (if 0 ≤ (p : Int) ∧ (p : Int) < (N : Int) then some (S.1 + 1 + (p : Int).toNat) else none) else _) = _
    rw [if_pos rfl, if_pos (by omega)]
    simp
  · funext y; exact if_neg hx
  · have e1 : (sv_S2 S N K).1 = S.1 + 1 + N := rfl
    obtain ⟨b1, b2, b3⟩ := hb x (by omega)
    refine ⟨b1, ?_, b3⟩
    funext y
    rw [show sv_r2 S r N x y = r x y from if_neg (by omega), b2]
theorem sv_K0.mv {S' : sv_S} {r' : sv_R} {k : Nat} (h : sv_K0 S r k) (h1 : S.1 ≤ S'.1) (h2 : ∀ x, x < S.1 → S'.2 x = S.2 x) (h3 : r' k = r k) : sv_K0 S' r' k := by
  obtain ⟨a, b, c, d⟩ := h
  refine ⟨by omega, by rw [h2 _ (by omega)]; exact b, ?_, ?_⟩
  · rw [h3, h2 _ (by omega)]; exact c
  · rw [h3, h2 _ (by omega)]; exact d
end SVALLOC2
