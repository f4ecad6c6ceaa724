section SVROWS
variable {X : sv_X} {R : Room} {M : sv_M} {Z : sv_Z} {kc ks : Nat} {pc : Nat} {ls : sv_L} {st : List sv_V} {S : sv_S} {f : sv_F} {r : sv_R} {g : sv_G}
theorem sv_iconst {n : Int} (hd : decode M.2.1 pc = .ok (.iconst n, 1)) (k : sv_T X R M Z kc ks (pc + 1) ls (sv_i n :: st) S f r g) : sv_T X R M Z kc ks pc ls st S f r g := by
  intro p l e s m args below meth c H locs la hF hP hS hH
  exact lv_iconst hF.1 hF.2.1 hd rfl (k p l e s m args below meth c H locs la hF hP hS hH)
theorem sv_bipush {n : Int} (hd : decode M.2.1 pc = .ok (.bipush n, 2)) (hv : (Int8.ofInt n).toInt32 = Int32.ofInt n) (k : sv_T X R M Z kc ks (pc + 2) ls (sv_i n :: st) S f r g) : sv_T X R M Z kc ks pc ls st S f r g := by
  intro p l e s m args below meth c H locs la hF hP hS hH
  exact lv_bipush hF.1 hF.2.1 hd hv (k p l e s m args below meth c H locs la hF hP hS hH)
theorem sv_sipush {n : Int} (hd : decode M.2.1 pc = .ok (.sipush n, 3)) (hv : (Int16.ofInt n).toInt32 = Int32.ofInt n) (k : sv_T X R M Z kc ks (pc + 3) ls (sv_i n :: st) S f r g) : sv_T X R M Z kc ks pc ls st S f r g := by
  intro p l e s m args below meth c H locs la hF hP hS hH
  exact lv_sipush hF.1 hF.2.1 hd hv (k p l e s m args below meth c H locs la hF hP hS hH)
theorem sv_ldc {n : Int} {i : Nat} (hd : decode M.2.1 pc = .ok (.ldc i, 2)) (hw : Cond.constant M.1.cls i (Int32.ofInt n) ∈ lw_tbl) (k : sv_T X R M Z kc ks (pc + 2) ls (sv_i n :: st) S f r g) : sv_T X R M Z kc ks pc ls st S f r g := by
  intro p l e s m args below meth c H locs la hF hP hS hH
  exact lv_ldc hF.1 hF.2.1 hF.2.2.2.2.1 (hF.2.2.2.2.2.2.2.1.1.use hw rfl) hd (k p l e s m args below meth c H locs la hF hP hS hH)
theorem sv_ldc2 {n : Int64} {i : Nat} (hd : decode M.2.1 pc = .ok (.ldc2_w i, 3)) (hw : Cond.constantLong M.1.cls i n ∈ lw_tbl) (k : sv_T X R M Z kc ks (pc + 3) ls (sv_l n :: st) S f r g) : sv_T X R M Z kc ks pc ls st S f r g := by
  intro p l e s m args below meth c H locs la hF hP hS hH
  exact lv_ldc2 hF.1 hF.2.1 hF.2.2.2.2.1 (hF.2.2.2.2.2.2.2.1.1.use hw rfl) hd (k p l e s m args below meth c H locs la hF hP hS hH)
theorem sv_iload_n {n : Fin 4} {i : Nat} {x : Int} (hd : decode M.2.1 pc = .ok (.iload_n n, 1)) (hi : (n : Nat) = i) (hl : ls[i]? = some (some (sv_i x))) (k : sv_T X R M Z kc ks (pc + 1) ls (sv_i x :: st) S f r g) : sv_T X R M Z kc ks pc ls st S f r g := by
  intro p l e s m args below meth c H locs la hF hP hS hH
  exact lv_iload_n hF.1 hF.2.1 hd hi (hH.2.2 _ _ hl) (k p l e s m args below meth c H locs la hF hP hS hH)
theorem sv_iload {i : Nat} {x : Int} (hd : decode M.2.1 pc = .ok (.iload i, 2)) (hl : ls[i]? = some (some (sv_i x))) (k : sv_T X R M Z kc ks (pc + 2) ls (sv_i x :: st) S f r g) : sv_T X R M Z kc ks pc ls st S f r g := by
  intro p l e s m args below meth c H locs la hF hP hS hH
  exact lv_iload hF.1 hF.2.1 hd (hH.2.2 _ _ hl) (k p l e s m args below meth c H locs la hF hP hS hH)
theorem sv_lload_n {n : Fin 4} {i : Nat} {x : Int64} (hd : decode M.2.1 pc = .ok (.lload_n n, 1)) (hi : (n : Nat) = i) (hl : ls[i]? = some (some (sv_l x))) (k : sv_T X R M Z kc ks (pc + 1) ls (sv_l x :: st) S f r g) : sv_T X R M Z kc ks pc ls st S f r g := by
  intro p l e s m args below meth c H locs la hF hP hS hH
  exact lv_lload_n hF.1 hF.2.1 hd hi (hH.2.2 _ _ hl) (k p l e s m args below meth c H locs la hF hP hS hH)
theorem sv_lload {i : Nat} {x : Int64} (hd : decode M.2.1 pc = .ok (.lload i, 2)) (hl : ls[i]? = some (some (sv_l x))) (k : sv_T X R M Z kc ks (pc + 2) ls (sv_l x :: st) S f r g) : sv_T X R M Z kc ks pc ls st S f r g := by
  intro p l e s m args below meth c H locs la hF hP hS hH
  exact lv_lload hF.1 hF.2.1 hd (hH.2.2 _ _ hl) (k p l e s m args below meth c H locs la hF hP hS hH)
theorem sv_aload_n {n : Fin 4} {i x : Nat} (hd : decode M.2.1 pc = .ok (.aload_n n, 1)) (hi : (n : Nat) = i) (hl : ls[i]? = some (some (sv_r x))) (k : sv_T X R M Z kc ks (pc + 1) ls (sv_r x :: st) S f r g) : sv_T X R M Z kc ks pc ls st S f r g := by
  intro p l e s m args below meth c H locs la hF hP hS hH
  exact lv_aload_n hF.1 hF.2.1 hd hi (hH.2.2 _ _ hl) (k p l e s m args below meth c H locs la hF hP hS hH)
theorem sv_aload {i x : Nat} (hd : decode M.2.1 pc = .ok (.aload i, 2)) (hl : ls[i]? = some (some (sv_r x))) (k : sv_T X R M Z kc ks (pc + 2) ls (sv_r x :: st) S f r g) : sv_T X R M Z kc ks pc ls st S f r g := by
  intro p l e s m args below meth c H locs la hF hP hS hH
  exact lv_aload hF.1 hF.2.1 hd (hH.2.2 _ _ hl) (k p l e s m args below meth c H locs la hF hP hS hH)
theorem sv_wload_n {n : Fin 4} {i x : Nat} (hd : decode M.2.1 pc = .ok (.aload_n n, 1)) (hi : (n : Nat) = i) (hl : ls[i]? = some (some (sv_w x))) (k : sv_T X R M Z kc ks (pc + 1) ls (sv_w x :: st) S f r g) : sv_T X R M Z kc ks pc ls st S f r g := by
  intro p l e s m args below meth c H locs la hF hP hS hH
  exact lv_aload_n hF.1 hF.2.1 hd hi (hH.2.2 _ _ hl) (k p l e s m args below meth c H locs la hF hP hS hH)
def sv_lng (o : Option (Option sv_V)) : Bool := match o with
  | some (some (.inr (.inr (.inl _)))) => true
  | _ => false
/-- storing at i, nothing long right ahead of it -/
def sv_fre (ls : sv_L) (i : Nat) : Bool := i == 0 || !(sv_lng ls[i - 1]?)
theorem sv_cat {b : Nat} {v : sv_V} (h : sv_lng (some (some v)) = false) : (sv_cv b v).category = 1 := by
  rcases v with a | o | x | a
  · rfl
  · cases o <;> rfl
  · simp [sv_lng] at h
  · rfl
theorem sv_cat2 {b : Nat} {v : sv_V} (h : (sv_cv b v).category = 2) : sv_lng (some (some v)) = true := by
  rcases v with a | o | x | a
  · cases h
  · cases o <;> cases h
  · rfl
  · cases h
def sv_ps (b : Nat) (ls : sv_L) : List (Nat × Value) := (List.range ls.length).filterMap (fun i => match ls[i]? with
  | some (some v) => some (i, sv_cv b v)
  | _ => none)
theorem sv_ps_mem {b : Nat} {ls : sv_L} {q : Nat × Value} : q ∈ sv_ps b ls ↔ ∃ v, ls[q.1]? = some (some v) ∧ q.2 = sv_cv b v := by
  unfold sv_ps
  constructor
  · intro h
    obtain ⟨i, -, hi⟩ := List.mem_filterMap.mp h
    cases hv : ls[i]? with
    | none => rw [hv] at hi; cases hi
    | some o =>
      cases o with
      | none => rw [hv] at hi; cases hi
      | some v =>
        rw [hv] at hi
        cases hi
        exact ⟨v, hv, rfl⟩
  · rintro ⟨v, h1, h2⟩
    refine List.mem_filterMap.mpr ⟨q.1, List.mem_range.mpr (List.getElem?_eq_some_iff.mp h1).1, ?_⟩
    rw [h1]
    exact congrArg some (Prod.ext rfl h2.symm)
theorem sv_H_has {b : Nat} {la : Array Slot} {nL : Nat} {ls : sv_L} (h : sv_H b la nL ls) : lv_has la nL (sv_ps b ls) := ⟨h.1, h.2.1, fun q hq => by
  obtain ⟨v, h1, h2⟩ := sv_ps_mem.mp hq
  rw [h2]
  exact h.2.2 _ _ h1⟩
theorem sv_H_of {b : Nat} {la : Array Slot} {nL : Nat} {ls : sv_L} {l : List (Nat × Value)} (h : lv_has la nL l) (hl : ∀ q ∈ sv_ps b ls, q ∈ l) : sv_H b la nL ls := ⟨h.1, h.2.1, fun i v hv => h.2.2 (i, sv_cv b v) (hl _ (sv_ps_mem.mpr ⟨v, hv, rfl⟩))⟩
theorem sv_H_set {b : Nat} {la' : Array Slot} {nL i : Nat} {ls : sv_L} {v : sv_V} (hfr : sv_fre ls i = true) (h : lv_has la' nL ((i, sv_cv b v) :: (sv_ps b ls).filter (fun q => !(q.1 == i) && !(q.1 + 1 == i && q.2.category == 2)))) : sv_H b la' nL (ls.set i (some v)) := by
  refine sv_H_of h fun q hq => ?_
  obtain ⟨w, h1, h2⟩ := sv_ps_mem.mp hq
  by_cases hqi : q.1 = i
  · subst hqi
    by_cases hlt : q.1 < ls.length
    · rw [List.getElem?_set_self hlt] at h1
      cases h1
      exact List.mem_cons.mpr (Or.inl (Prod.ext rfl h2))
    · rw [List.getElem?_eq_none (by rw [List.length_set]; omega)] at h1
      cases h1
  · rw [List.getElem?_set_ne (Ne.symm hqi)] at h1
    refine List.mem_cons.mpr (Or.inr (List.mem_filter.mpr ⟨sv_ps_mem.mpr ⟨w, h1, h2⟩, ?_⟩))
    have n1 : (q.1 == i) = false := by simp [hqi]
    rw [n1]
    by_cases h3 : q.1 + 1 = i
    · have hc : (q.2.category == 2) = false := by
        rw [h2]
        simp only [beq_eq_false_iff_ne, ne_eq]
        intro hc
        have := sv_cat2 hc
        unfold sv_fre at hfr
        rw [show i - 1 = q.1 by omega, h1, this] at hfr
        simp at hfr
        omega
      rw [hc]
      simp
    · have : (q.1 + 1 == i) = false := by simp [h3]
      rw [this]
      rfl
theorem sv_istore_n {n : Fin 4} {i : Nat} {x : Int} (hd : decode M.2.1 pc = .ok (.istore_n n, 1)) (hi : (n : Nat) = i) (hn : i < M.2.2.1) (hfr : sv_fre ls i = true) (k : sv_T X R M Z kc ks (pc + 1) (ls.set i (some (sv_i x))) st S f r g) : sv_T X R M Z kc ks pc ls (sv_i x :: st) S f r g := by
  intro p l e s m args below meth c H locs la hF hP hS hH
  exact lv_istore_n hF.1 hF.2.1 hd hi (sv_H_has hH) hn rfl (fun la' h' => k p l e s m args below meth c H locs la' hF hP hS (sv_H_set hfr h'))
theorem sv_istore {i : Nat} {x : Int} (hd : decode M.2.1 pc = .ok (.istore i, 2)) (hn : i < M.2.2.1) (hfr : sv_fre ls i = true) (k : sv_T X R M Z kc ks (pc + 2) (ls.set i (some (sv_i x))) st S f r g) : sv_T X R M Z kc ks pc ls (sv_i x :: st) S f r g := by
  intro p l e s m args below meth c H locs la hF hP hS hH
  exact lv_istore hF.1 hF.2.1 hd (sv_H_has hH) hn rfl (fun la' h' => k p l e s m args below meth c H locs la' hF hP hS (sv_H_set hfr h'))
theorem sv_astore_n {n : Fin 4} {i x : Nat} (hd : decode M.2.1 pc = .ok (.astore_n n, 1)) (hi : (n : Nat) = i) (hn : i < M.2.2.1) (hfr : sv_fre ls i = true) (k : sv_T X R M Z kc ks (pc + 1) (ls.set i (some (sv_r x))) st S f r g) : sv_T X R M Z kc ks pc ls (sv_r x :: st) S f r g := by
  intro p l e s m args below meth c H locs la hF hP hS hH
  exact lv_astore_n hF.1 hF.2.1 hd hi (sv_H_has hH) hn rfl (fun la' h' => k p l e s m args below meth c H locs la' hF hP hS (sv_H_set (v := sv_r x) hfr h'))
theorem sv_astore {i x : Nat} (hd : decode M.2.1 pc = .ok (.astore i, 2)) (hn : i < M.2.2.1) (hfr : sv_fre ls i = true) (k : sv_T X R M Z kc ks (pc + 2) (ls.set i (some (sv_r x))) st S f r g) : sv_T X R M Z kc ks pc ls (sv_r x :: st) S f r g := by
  intro p l e s m args below meth c H locs la hF hP hS hH
  exact lv_astore hF.1 hF.2.1 hd (sv_H_has hH) hn rfl (fun la' h' => k p l e s m args below meth c H locs la' hF hP hS (sv_H_set (v := sv_r x) hfr h'))
theorem sv_H_set2 {b : Nat} {la' : Array Slot} {nL i : Nat} {ls : sv_L} {v : sv_V} (hfr : sv_fre ls i = true) (h : lv_has la' nL ((i, sv_cv b v) :: (sv_ps b ls).filter (fun q => !(q.1 == i) && (!(q.1 == i + 1) && !(q.1 + 1 == i && q.2.category == 2))))) : sv_H b la' nL ((ls.set i (some v)).set (i + 1) none) := by
  refine sv_H_of h fun q hq => ?_
  obtain ⟨w, h1, h2⟩ := sv_ps_mem.mp hq
  by_cases hq2 : q.1 = i + 1
  · rw [hq2] at h1
    by_cases hlt : i + 1 < (ls.set i (some v)).length
    · rw [List.getElem?_set_self hlt] at h1
      cases h1
    · rw [List.getElem?_eq_none (by rw [List.length_set]; omega)] at h1
      cases h1
  rw [List.getElem?_set_ne (Ne.symm hq2)] at h1
  by_cases hqi : q.1 = i
  · subst hqi
    by_cases hlt : q.1 < ls.length
    · rw [List.getElem?_set_self hlt] at h1
      cases h1
      exact List.mem_cons.mpr (Or.inl (Prod.ext rfl h2))
    · rw [List.getElem?_eq_none (by rw [List.length_set]; omega)] at h1
      cases h1
  · rw [List.getElem?_set_ne (Ne.symm hqi)] at h1
    refine List.mem_cons.mpr (Or.inr (List.mem_filter.mpr ⟨sv_ps_mem.mpr ⟨w, h1, h2⟩, ?_⟩))
    have n1 : (q.1 == i) = false := by simp [hqi]
    have n2 : (q.1 == i + 1) = false := by simp [hq2]
    rw [n1, n2]
    by_cases h3 : q.1 + 1 = i
    · have hc : (q.2.category == 2) = false := by
        rw [h2]
        simp only [beq_eq_false_iff_ne, ne_eq]
        intro hc
        have := sv_cat2 hc
        unfold sv_fre at hfr
        rw [show i - 1 = q.1 by omega, h1, this] at hfr
        simp at hfr
        omega
      rw [hc]
      simp
    · have : (q.1 + 1 == i) = false := by simp [h3]
      rw [this]
      rfl
theorem sv_lstore_n {n : Fin 4} {i : Nat} {x : Int64} (hd : decode M.2.1 pc = .ok (.lstore_n n, 1)) (hi : (n : Nat) = i) (hn : i + 1 < M.2.2.1) (hfr : sv_fre ls i = true) (k : sv_T X R M Z kc ks (pc + 1) ((ls.set i (some (sv_l x))).set (i + 1) none) st S f r g) : sv_T X R M Z kc ks pc ls (sv_l x :: st) S f r g := by
  intro p l e s m args below meth c H locs la hF hP hS hH
  exact lv_lstore_n hF.1 hF.2.1 hd hi (sv_H_has hH) hn rfl (fun la' h' => k p l e s m args below meth c H locs la' hF hP hS (sv_H_set2 hfr h'))
theorem sv_lstore {i : Nat} {x : Int64} (hd : decode M.2.1 pc = .ok (.lstore i, 2)) (hn : i + 1 < M.2.2.1) (hfr : sv_fre ls i = true) (k : sv_T X R M Z kc ks (pc + 2) ((ls.set i (some (sv_l x))).set (i + 1) none) st S f r g) : sv_T X R M Z kc ks pc ls (sv_l x :: st) S f r g := by
  intro p l e s m args below meth c H locs la hF hP hS hH
  exact lv_lstore hF.1 hF.2.1 hd (sv_H_has hH) hn rfl (fun la' h' => k p l e s m args below meth c H locs la' hF hP hS (sv_H_set2 hfr h'))
theorem sv_iinc {i : Nat} {n x : Int} (hd : decode M.2.1 pc = .ok (.iinc i n, 3)) (hl : ls[i]? = some (some (sv_i x))) (hn : i < M.2.2.1) (hfr : sv_fre ls i = true) (k : sv_T X R M Z kc ks (pc + 3) (ls.set i (some (sv_i (x + n)))) st S f r g) : sv_T X R M Z kc ks pc ls st S f r g := by
  intro p l e s m args below meth c H locs la hF hP hS hH
  obtain ⟨j, hj⟩ := List.getElem?_of_mem (sv_ps_mem.mpr ⟨_, hl, rfl⟩ : (i, sv_cv X.1 (sv_i x)) ∈ sv_ps X.1 ls)
  exact lv_iinc (v := Int32.ofInt (x + n)) hF.1 hF.2.1 hd (sv_H_has hH) hj (by rw [Int32.ofInt_add]) hn rfl (fun la' h' => k p l e s m args below meth c H locs la' hF hP hS (sv_H_set (v := sv_i (x + n)) hfr h'))
theorem sv_iadd {x y : Int} (hd : decode M.2.1 pc = .ok (.iadd, 1)) (k : sv_T X R M Z kc ks (pc + 1) ls (sv_i (x + y) :: st) S f r g) : sv_T X R M Z kc ks pc ls (sv_i y :: sv_i x :: st) S f r g := by
  intro p l e s m args below meth c H locs la hF hP hS hH
  have h := k p l e s m args below meth c H locs la hF hP hS hH
  refine lv_iadd hF.1 hF.2.1 hd ?_
  rw [← Int32.ofInt_add]
  exact h
theorem sv_isub {x y : Int} (hd : decode M.2.1 pc = .ok (.isub, 1)) (k : sv_T X R M Z kc ks (pc + 1) ls (sv_i (x - y) :: st) S f r g) : sv_T X R M Z kc ks pc ls (sv_i y :: sv_i x :: st) S f r g := by
  intro p l e s m args below meth c H locs la hF hP hS hH
  have h := k p l e s m args below meth c H locs la hF hP hS hH
  refine lv_isub hF.1 hF.2.1 hd ?_
  rw [← Int32.ofInt_sub]
  exact h
theorem sv_imul {x y : Int} (hd : decode M.2.1 pc = .ok (.imul, 1)) (k : sv_T X R M Z kc ks (pc + 1) ls (sv_i (x * y) :: st) S f r g) : sv_T X R M Z kc ks pc ls (sv_i y :: sv_i x :: st) S f r g := by
  intro p l e s m args below meth c H locs la hF hP hS hH
  have h := k p l e s m args below meth c H locs la hF hP hS hH
  refine lv_imul hF.1 hF.2.1 hd ?_
  rw [← Int32.ofInt_mul]
  exact h
theorem sv_ineg {x : Int} (hd : decode M.2.1 pc = .ok (.ineg, 1)) (k : sv_T X R M Z kc ks (pc + 1) ls (sv_i (-x) :: st) S f r g) : sv_T X R M Z kc ks pc ls (sv_i x :: st) S f r g := by
  intro p l e s m args below meth c H locs la hF hP hS hH
  have h := k p l e s m args below meth c H locs la hF hP hS hH
  refine lv_ineg hF.1 hF.2.1 hd ?_
  rw [← Int32.ofInt_neg]
  exact h
theorem sv_toInt {x : Int} (h : sv_in x) : (Int32.ofInt x).toInt = x := Int32.toInt_ofInt_of_le (by omega) (by omega)
theorem sv_ofInt_div {x y : Int} (hx : sv_in x) (hy : sv_in y) (h0 : 0 ≤ x) (h1 : 0 < y) : Int32.ofInt x / Int32.ofInt y = Int32.ofInt (x / y) := by
  apply Int32.toInt_inj.mp
  rw [Int32.toInt_div_of_ne_right _ _ (by intro h; have := congrArg Int32.toInt h; rw [sv_toInt hy] at this; simp at this; omega), sv_toInt hx, sv_toInt hy]
  have a1 : x / y ≤ x := Int.ediv_le_self _ h0
  have a2 : 0 ≤ x / y := Int.ediv_nonneg h0 (by omega)
  rw [sv_toInt (by omega), Int.tdiv_eq_ediv_of_nonneg h0]
theorem sv_ne0 {y : Int} (hy : sv_in y) (h1 : 0 < y) : ¬ Int32.ofInt y = 0 := by
  intro h
  have := congrArg Int32.toInt h
  rw [sv_toInt hy] at this
  simp at this
  omega
theorem sv_idiv {x y : Int} (hd : decode M.2.1 pc = .ok (.idiv, 1)) (hx : 0 ≤ x ∧ x ≤ 2147483647) (hy : 0 < y ∧ y ≤ 2147483647) (k : sv_T X R M Z kc ks (pc + 1) ls (sv_i (x / y) :: st) S f r g) : sv_T X R M Z kc ks pc ls (sv_i y :: sv_i x :: st) S f r g := by
  intro p l e s m args below meth c H locs la hF hP hS hH
  have h := k p l e s m args below meth c H locs la hF hP hS hH
  refine lv_idiv hF.1 hF.2.1 hd (sv_ne0 (by omega) hy.1) ?_
  rw [sv_ofInt_div (by omega) (by omega) hx.1 hy.1]
  exact h
theorem sv_irem {x y : Int} (hd : decode M.2.1 pc = .ok (.irem, 1)) (hx : 0 ≤ x ∧ x ≤ 2147483647) (hy : 0 < y ∧ y ≤ 2147483647) (k : sv_T X R M Z kc ks (pc + 1) ls (sv_i (x % y) :: st) S f r g) : sv_T X R M Z kc ks pc ls (sv_i y :: sv_i x :: st) S f r g := by
  intro p l e s m args below meth c H locs la hF hP hS hH
  have h := k p l e s m args below meth c H locs la hF hP hS hH
  refine lv_irem hF.1 hF.2.1 hd (sv_ne0 (by omega) hy.1) ?_
  rw [sv_ofInt_div (by omega) (by omega) hx.1 hy.1, ← Int32.ofInt_mul, ← Int32.ofInt_sub, show x - x / y * y = x % y by have := Int.mul_ediv_add_emod x y; rw [Int.mul_comm] at this; omega]
  exact h
theorem sv_iand {x y z : Int} (hd : decode M.2.1 pc = .ok (.iand, 1)) (hz : Int32.ofInt x &&& Int32.ofInt y = Int32.ofInt z) (k : sv_T X R M Z kc ks (pc + 1) ls (sv_i z :: st) S f r g) : sv_T X R M Z kc ks pc ls (sv_i y :: sv_i x :: st) S f r g := by
  intro p l e s m args below meth c H locs la hF hP hS hH
  have h := k p l e s m args below meth c H locs la hF hP hS hH
  refine lv_iand hF.1 hF.2.1 hd ?_
  rw [hz]
  exact h
theorem sv_ishr {x y z : Int} (hd : decode M.2.1 pc = .ok (.ishr, 1)) (hz : Int32.ofInt x >>> (Int32.ofInt y &&& 31) = Int32.ofInt z) (k : sv_T X R M Z kc ks (pc + 1) ls (sv_i z :: st) S f r g) : sv_T X R M Z kc ks pc ls (sv_i y :: sv_i x :: st) S f r g := by
  intro p l e s m args below meth c H locs la hF hP hS hH
  have h := k p l e s m args below meth c H locs la hF hP hS hH
  refine lv_ishr hF.1 hF.2.1 hd ?_
  rw [hz]
  exact h
theorem sv_ladd {x y : Int64} (hd : decode M.2.1 pc = .ok (.ladd, 1)) (k : sv_T X R M Z kc ks (pc + 1) ls (sv_l (x + y) :: st) S f r g) : sv_T X R M Z kc ks pc ls (sv_l y :: sv_l x :: st) S f r g := by
  intro p l e s m args below meth c H locs la hF hP hS hH
  exact lv_ladd hF.1 hF.2.1 hd (k p l e s m args below meth c H locs la hF hP hS hH)
theorem sv_lmul {x y : Int64} (hd : decode M.2.1 pc = .ok (.lmul, 1)) (k : sv_T X R M Z kc ks (pc + 1) ls (sv_l (x * y) :: st) S f r g) : sv_T X R M Z kc ks pc ls (sv_l y :: sv_l x :: st) S f r g := by
  intro p l e s m args below meth c H locs la hF hP hS hH
  exact lv_lmul hF.1 hF.2.1 hd (k p l e s m args below meth c H locs la hF hP hS hH)
theorem sv_i2l {x : Int} (hd : decode M.2.1 pc = .ok (.i2l, 1)) (k : sv_T X R M Z kc ks (pc + 1) ls (sv_l (Int32.ofInt x).toInt64 :: st) S f r g) : sv_T X R M Z kc ks pc ls (sv_i x :: st) S f r g := by
  intro p l e s m args below meth c H locs la hF hP hS hH
  exact lv_i2l hF.1 hF.2.1 hd rfl (k p l e s m args below meth c H locs la hF hP hS hH)
theorem sv_dup {v : sv_V} (hd : decode M.2.1 pc = .ok (.dup, 1)) (hv : sv_lng (some (some v)) = false) (k : sv_T X R M Z kc ks (pc + 1) ls (v :: v :: st) S f r g) : sv_T X R M Z kc ks pc ls (v :: st) S f r g := by
  intro p l e s m args below meth c H locs la hF hP hS hH
  exact lv_dup hF.1 hF.2.1 hd (sv_cat hv) (k p l e s m args below meth c H locs la hF hP hS hH)
theorem sv_pop {v : sv_V} (hd : decode M.2.1 pc = .ok (.pop, 1)) (hv : sv_lng (some (some v)) = false) (k : sv_T X R M Z kc ks (pc + 1) ls st S f r g) : sv_T X R M Z kc ks pc ls (v :: st) S f r g := by
  intro p l e s m args below meth c H locs la hF hP hS hH
  exact lv_pop hF.1 hF.2.1 hd (sv_cat hv) (k p l e s m args below meth c H locs la hF hP hS hH)
theorem sv_dup2 {v w : sv_V} (hd : decode M.2.1 pc = .ok (.dup2, 1)) (hv : sv_lng (some (some v)) = false) (hw : sv_lng (some (some w)) = false) (k : sv_T X R M Z kc ks (pc + 1) ls (v :: w :: v :: w :: st) S f r g) : sv_T X R M Z kc ks pc ls (v :: w :: st) S f r g := by
  intro p l e s m args below meth c H locs la hF hP hS hH
  exact lv_dup2_11 hF.1 hF.2.1 hd (sv_cat hv) (sv_cat hw) (k p l e s m args below meth c H locs la hF hP hS hH)
theorem sv_goto {off : Int} {tgt : Nat} (hd : decode M.2.1 pc = .ok (.goto off, 3)) (ht : (pc : Int) + off = (tgt : Int)) (k : sv_T X R M Z kc ks tgt ls st S f r g) : sv_T X R M Z kc ks pc ls st S f r g := by
  intro p l e s m args below meth c H locs la hF hP hS hH
  exact lv_goto hF.1 hF.2.1 hd ht (k p l e s m args below meth c H locs la hF hP hS hH)
theorem sv_eqI {x y : Int} (hx : sv_in x) (hy : sv_in y) : Int32.ofInt x = Int32.ofInt y ↔ x = y := by
  constructor
  · intro h
    have := congrArg Int32.toInt h
    rw [sv_toInt hx, sv_toInt hy] at this
    exact this
  · intro h
    rw [h]
theorem sv_ltI {x y : Int} (hx : sv_in x) (hy : sv_in y) : Int32.ofInt x < Int32.ofInt y ↔ x < y := by rw [Int32.lt_iff_toInt_lt, sv_toInt hx, sv_toInt hy]
theorem sv_leI {x y : Int} (hx : sv_in x) (hy : sv_in y) : Int32.ofInt x ≤ Int32.ofInt y ↔ x ≤ y := by rw [Int32.le_iff_toInt_le, sv_toInt hx, sv_toInt hy]
theorem sv_icmp_eq {x y off : Int} {tgt : Nat} (hd : decode M.2.1 pc = .ok (.if_icmp .eq off, 3)) (ht : (pc : Int) + off = (tgt : Int)) (hx : sv_in x) (hy : sv_in y) (kt : x = y → sv_T X R M Z kc ks tgt ls st S f r g) (kf : ¬ x = y → sv_T X R M Z kc ks (pc + 3) ls st S f r g) : sv_T X R M Z kc ks pc ls (sv_i y :: sv_i x :: st) S f r g := by
  intro p l e s m args below meth c H locs la hF hP hS hH
  exact lv_icmp_eq hF.1 hF.2.1 hd ht (fun q => kt ((sv_eqI hx hy).mp q) p l e s m args below meth c H locs la hF hP hS hH) (fun q => kf (fun z => q ((sv_eqI hx hy).mpr z)) p l e s m args below meth c H locs la hF hP hS hH)
theorem sv_icmp_ne {x y off : Int} {tgt : Nat} (hd : decode M.2.1 pc = .ok (.if_icmp .ne off, 3)) (ht : (pc : Int) + off = (tgt : Int)) (hx : sv_in x) (hy : sv_in y) (kt : ¬ x = y → sv_T X R M Z kc ks tgt ls st S f r g) (kf : x = y → sv_T X R M Z kc ks (pc + 3) ls st S f r g) : sv_T X R M Z kc ks pc ls (sv_i y :: sv_i x :: st) S f r g := by
  intro p l e s m args below meth c H locs la hF hP hS hH
  exact lv_icmp_ne hF.1 hF.2.1 hd ht (fun q => kt (fun z => q ((sv_eqI hx hy).mpr z)) p l e s m args below meth c H locs la hF hP hS hH) (fun q => kf ((sv_eqI hx hy).mp q) p l e s m args below meth c H locs la hF hP hS hH)
theorem sv_icmp_lt {x y off : Int} {tgt : Nat} (hd : decode M.2.1 pc = .ok (.if_icmp .lt off, 3)) (ht : (pc : Int) + off = (tgt : Int)) (hx : sv_in x) (hy : sv_in y) (kt : x < y → sv_T X R M Z kc ks tgt ls st S f r g) (kf : y ≤ x → sv_T X R M Z kc ks (pc + 3) ls st S f r g) : sv_T X R M Z kc ks pc ls (sv_i y :: sv_i x :: st) S f r g := by
  intro p l e s m args below meth c H locs la hF hP hS hH
  exact lv_icmp_lt hF.1 hF.2.1 hd ht (fun q => kt ((sv_ltI hx hy).mp q) p l e s m args below meth c H locs la hF hP hS hH) (fun q => kf (by have q2 : ¬ (x < y) := fun z => q ((sv_ltI hx hy).mpr z); omega) p l e s m args below meth c H locs la hF hP hS hH)
theorem sv_icmp_ge {x y off : Int} {tgt : Nat} (hd : decode M.2.1 pc = .ok (.if_icmp .ge off, 3)) (ht : (pc : Int) + off = (tgt : Int)) (hx : sv_in x) (hy : sv_in y) (kt : y ≤ x → sv_T X R M Z kc ks tgt ls st S f r g) (kf : x < y → sv_T X R M Z kc ks (pc + 3) ls st S f r g) : sv_T X R M Z kc ks pc ls (sv_i y :: sv_i x :: st) S f r g := by
  intro p l e s m args below meth c H locs la hF hP hS hH
  exact lv_icmp_ge hF.1 hF.2.1 hd ht (fun q => kt ((sv_leI hy hx).mp q) p l e s m args below meth c H locs la hF hP hS hH) (fun q => kf (by have q2 : ¬ (y ≤ x) := fun z => q ((sv_leI hy hx).mpr z); omega) p l e s m args below meth c H locs la hF hP hS hH)
theorem sv_icmp_gt {x y off : Int} {tgt : Nat} (hd : decode M.2.1 pc = .ok (.if_icmp .gt off, 3)) (ht : (pc : Int) + off = (tgt : Int)) (hx : sv_in x) (hy : sv_in y) (kt : y < x → sv_T X R M Z kc ks tgt ls st S f r g) (kf : x ≤ y → sv_T X R M Z kc ks (pc + 3) ls st S f r g) : sv_T X R M Z kc ks pc ls (sv_i y :: sv_i x :: st) S f r g := by
  intro p l e s m args below meth c H locs la hF hP hS hH
  exact lv_icmp_gt hF.1 hF.2.1 hd ht (fun q => kt ((sv_ltI hy hx).mp q) p l e s m args below meth c H locs la hF hP hS hH) (fun q => kf (by have q2 : ¬ (y < x) := fun z => q ((sv_ltI hy hx).mpr z); omega) p l e s m args below meth c H locs la hF hP hS hH)
theorem sv_icmp_le {x y off : Int} {tgt : Nat} (hd : decode M.2.1 pc = .ok (.if_icmp .le off, 3)) (ht : (pc : Int) + off = (tgt : Int)) (hx : sv_in x) (hy : sv_in y) (kt : x ≤ y → sv_T X R M Z kc ks tgt ls st S f r g) (kf : y < x → sv_T X R M Z kc ks (pc + 3) ls st S f r g) : sv_T X R M Z kc ks pc ls (sv_i y :: sv_i x :: st) S f r g := by
  intro p l e s m args below meth c H locs la hF hP hS hH
  exact lv_icmp_le hF.1 hF.2.1 hd ht (fun q => kt ((sv_leI hx hy).mp q) p l e s m args below meth c H locs la hF hP hS hH) (fun q => kf (by have q2 : ¬ (x ≤ y) := fun z => q ((sv_leI hx hy).mpr z); omega) p l e s m args below meth c H locs la hF hP hS hH)
theorem sv_if_eq {x off : Int} {tgt : Nat} (hd : decode M.2.1 pc = .ok (.ifCond .eq off, 3)) (ht : (pc : Int) + off = (tgt : Int)) (hx : sv_in x) (kt : x = 0 → sv_T X R M Z kc ks tgt ls st S f r g) (kf : ¬ x = 0 → sv_T X R M Z kc ks (pc + 3) ls st S f r g) : sv_T X R M Z kc ks pc ls (sv_i x :: st) S f r g := by
  intro p l e s m args below meth c H locs la hF hP hS hH
  have h0 : sv_in 0 := by omega
  exact lv_if_eq hF.1 hF.2.1 hd ht (fun q => kt ((sv_eqI hx h0).mp q) p l e s m args below meth c H locs la hF hP hS hH) (fun q => kf (fun z => q ((sv_eqI hx h0).mpr z)) p l e s m args below meth c H locs la hF hP hS hH)
theorem sv_if_ne {x off : Int} {tgt : Nat} (hd : decode M.2.1 pc = .ok (.ifCond .ne off, 3)) (ht : (pc : Int) + off = (tgt : Int)) (hx : sv_in x) (kt : ¬ x = 0 → sv_T X R M Z kc ks tgt ls st S f r g) (kf : x = 0 → sv_T X R M Z kc ks (pc + 3) ls st S f r g) : sv_T X R M Z kc ks pc ls (sv_i x :: st) S f r g := by
  intro p l e s m args below meth c H locs la hF hP hS hH
  have h0 : sv_in 0 := by omega
  exact lv_if_ne hF.1 hF.2.1 hd ht (fun q => kt (fun z => q ((sv_eqI hx h0).mpr z)) p l e s m args below meth c H locs la hF hP hS hH) (fun q => kf ((sv_eqI hx h0).mp q) p l e s m args below meth c H locs la hF hP hS hH)
theorem sv_if_lt {x off : Int} {tgt : Nat} (hd : decode M.2.1 pc = .ok (.ifCond .lt off, 3)) (ht : (pc : Int) + off = (tgt : Int)) (hx : sv_in x) (kt : x < 0 → sv_T X R M Z kc ks tgt ls st S f r g) (kf : 0 ≤ x → sv_T X R M Z kc ks (pc + 3) ls st S f r g) : sv_T X R M Z kc ks pc ls (sv_i x :: st) S f r g := by
  intro p l e s m args below meth c H locs la hF hP hS hH
  have h0 : sv_in 0 := by omega
  exact lv_if_lt hF.1 hF.2.1 hd ht (fun q => kt ((sv_ltI hx h0).mp q) p l e s m args below meth c H locs la hF hP hS hH) (fun q => kf (by have q2 : ¬ (x < 0) := fun z => q ((sv_ltI hx h0).mpr z); omega) p l e s m args below meth c H locs la hF hP hS hH)
theorem sv_if_ge {x off : Int} {tgt : Nat} (hd : decode M.2.1 pc = .ok (.ifCond .ge off, 3)) (ht : (pc : Int) + off = (tgt : Int)) (hx : sv_in x) (kt : 0 ≤ x → sv_T X R M Z kc ks tgt ls st S f r g) (kf : x < 0 → sv_T X R M Z kc ks (pc + 3) ls st S f r g) : sv_T X R M Z kc ks pc ls (sv_i x :: st) S f r g := by
  intro p l e s m args below meth c H locs la hF hP hS hH
  have h0 : sv_in 0 := by omega
  exact lv_if_ge hF.1 hF.2.1 hd ht (fun q => kt ((sv_leI h0 hx).mp q) p l e s m args below meth c H locs la hF hP hS hH) (fun q => kf (by have q2 : ¬ (0 ≤ x) := fun z => q ((sv_leI h0 hx).mpr z); omega) p l e s m args below meth c H locs la hF hP hS hH)
theorem sv_if_gt {x off : Int} {tgt : Nat} (hd : decode M.2.1 pc = .ok (.ifCond .gt off, 3)) (ht : (pc : Int) + off = (tgt : Int)) (hx : sv_in x) (kt : 0 < x → sv_T X R M Z kc ks tgt ls st S f r g) (kf : x ≤ 0 → sv_T X R M Z kc ks (pc + 3) ls st S f r g) : sv_T X R M Z kc ks pc ls (sv_i x :: st) S f r g := by
  intro p l e s m args below meth c H locs la hF hP hS hH
  have h0 : sv_in 0 := by omega
  exact lv_if_gt hF.1 hF.2.1 hd ht (fun q => kt ((sv_ltI h0 hx).mp q) p l e s m args below meth c H locs la hF hP hS hH) (fun q => kf (by have q2 : ¬ (0 < x) := fun z => q ((sv_ltI h0 hx).mpr z); omega) p l e s m args below meth c H locs la hF hP hS hH)
theorem sv_if_le {x off : Int} {tgt : Nat} (hd : decode M.2.1 pc = .ok (.ifCond .le off, 3)) (ht : (pc : Int) + off = (tgt : Int)) (hx : sv_in x) (kt : x ≤ 0 → sv_T X R M Z kc ks tgt ls st S f r g) (kf : 0 < x → sv_T X R M Z kc ks (pc + 3) ls st S f r g) : sv_T X R M Z kc ks pc ls (sv_i x :: st) S f r g := by
  intro p l e s m args below meth c H locs la hF hP hS hH
  have h0 : sv_in 0 := by omega
  exact lv_if_le hF.1 hF.2.1 hd ht (fun q => kt ((sv_leI hx h0).mp q) p l e s m args below meth c H locs la hF hP hS hH) (fun q => kf (by have q2 : ¬ (x ≤ 0) := fun z => q ((sv_leI hx h0).mpr z); omega) p l e s m args below meth c H locs la hF hP hS hH)
theorem sv_tsw {lo hi : Int} {dflt : Int} {offs : Array Int} {len : Nat} {x off : Int} {tgt : Nat} (hd : decode M.2.1 pc = .ok (.tableswitch dflt lo hi offs, len)) (hx : sv_in x) (h1 : lo ≤ x) (h2 : x ≤ hi) (ho : offs[(x - lo).toNat]? = some off) (ht : (pc : Int) + off = (tgt : Int)) (k : sv_T X R M Z kc ks tgt ls st S f r g) : sv_T X R M Z kc ks pc ls (sv_i x :: st) S f r g := by
  intro p l e s m args below meth c H locs la hF hP hS hH
  exact lv_tableIn hF.1 hF.2.1 hd (by rw [sv_toInt hx]; omega) (by rw [sv_toInt hx]; omega) (by rw [sv_toInt hx]; exact ho) ht (k p l e s m args below meth c H locs la hF hP hS hH)
theorem sv_tswd {lo hi : Int} {dflt : Int} {offs : Array Int} {len : Nat} {x : Int} {tgt : Nat} (hd : decode M.2.1 pc = .ok (.tableswitch dflt lo hi offs, len)) (hx : sv_in x) (h1 : x < lo ∨ hi < x) (ht : (pc : Int) + dflt = (tgt : Int)) (k : sv_T X R M Z kc ks tgt ls st S f r g) : sv_T X R M Z kc ks pc ls (sv_i x :: st) S f r g := by
  intro p l e s m args below meth c H locs la hF hP hS hH
  exact lv_tableOut hF.1 hF.2.1 hd (by rw [sv_toInt hx]; exact h1) ht (k p l e s m args below meth c H locs la hF hP hS hH)
theorem sv_lcmp {x y : Int64} (hd : decode M.2.1 pc = .ok (.lcmp, 1)) (hxy : x = y) (k : sv_T X R M Z kc ks (pc + 1) ls (sv_i 0 :: st) S f r g) : sv_T X R M Z kc ks pc ls (sv_l y :: sv_l x :: st) S f r g := by
  intro p l e s m args below meth c H locs la hF hP hS hH
  have h := k p l e s m args below meth c H locs la hF hP hS hH
  refine W.lcmp hF.1 hF.2.1 hd ?_
  subst hxy
  have e : lg_cmp x x = 0 := by simp [lg_cmp]
  rw [e]
  exact h
/-- the facts that the heap's own picture gives -/
theorem sv_fr (k : (∀ i j, sv_in (f i j)) → sv_T X R M Z kc ks pc ls st S f r g) : sv_T X R M Z kc ks pc ls st S f r g := by
  intro p l e s m args below meth c H locs la hF hP hS hH
  exact k hP.2.2.1 p l e s m args below meth c H locs la hF hP hS hH
end SVROWS
