/-- nothing is written in the cells of ints behind what there is -/
def sv_bf (S : sv_S) (f : sv_F) : Prop := ∀ x, S.1 ≤ x → f x = fun _ => 0
section SVROWS2
variable {X : sv_X} {R : Room} {M : sv_M} {Z : sv_Z} {kc ks : Nat} {pc : Nat} {ls : sv_L} {st : List sv_V} {S : sv_S} {f : sv_F} {r : sv_R} {g : sv_G}
theorem sv_in32 (z : Int32) : sv_in z.toInt := ⟨Int32.le_toInt z, by have := Int32.toInt_lt z; omega⟩
theorem sv_ishl {x y z : Int} (hd : decode M.2.1 pc = .ok (.ishl, 1)) (hz : Int32.ofInt x <<< (Int32.ofInt y &&& 31) = Int32.ofInt z) (k : sv_T X R M Z kc ks (pc + 1) ls (sv_i z :: st) S f r g) : sv_T X R M Z kc ks pc ls (sv_i y :: sv_i x :: st) S f r g := by
  intro p l e s m args below meth c H locs la hF hP hS hH
  have h := k p l e s m args below meth c H locs la hF hP hS hH
  refine lv_ishl hF.1 hF.2.1 hd ?_
  rw [hz]
  exact h
theorem sv_ior {x y z : Int} (hd : decode M.2.1 pc = .ok (.ior, 1)) (hz : Int32.ofInt x ||| Int32.ofInt y = Int32.ofInt z) (k : sv_T X R M Z kc ks (pc + 1) ls (sv_i z :: st) S f r g) : sv_T X R M Z kc ks pc ls (sv_i y :: sv_i x :: st) S f r g := by
  intro p l e s m args below meth c H locs la hF hP hS hH
  have h := k p l e s m args below meth c H locs la hF hP hS hH
  refine lv_ior hF.1 hF.2.1 hd ?_
  rw [hz]
  exact h
theorem sv_ixor {x y z : Int} (hd : decode M.2.1 pc = .ok (.ixor, 1)) (hz : Int32.ofInt x ^^^ Int32.ofInt y = Int32.ofInt z) (k : sv_T X R M Z kc ks (pc + 1) ls (sv_i z :: st) S f r g) : sv_T X R M Z kc ks pc ls (sv_i y :: sv_i x :: st) S f r g := by
  intro p l e s m args below meth c H locs la hF hP hS hH
  have h := k p l e s m args below meth c H locs la hF hP hS hH
  refine lv_ixor hF.1 hF.2.1 hd ?_
  rw [hz]
  exact h
theorem sv_land {x y : Int64} (hd : decode M.2.1 pc = .ok (.land, 1)) (k : sv_T X R M Z kc ks (pc + 1) ls (sv_l (x &&& y) :: st) S f r g) : sv_T X R M Z kc ks pc ls (sv_l y :: sv_l x :: st) S f r g := by
  intro p l e s m args below meth c H locs la hF hP hS hH
  exact lv_land hF.1 hF.2.1 hd (k p l e s m args below meth c H locs la hF hP hS hH)
theorem sv_lshr {x v : Int64} {y : Int} (hd : decode M.2.1 pc = .ok (.lshr, 1)) (hv : x >>> ((Int32.ofInt y).toInt64 &&& 63) = v) (k : sv_T X R M Z kc ks (pc + 1) ls (sv_l v :: st) S f r g) : sv_T X R M Z kc ks pc ls (sv_i y :: sv_l x :: st) S f r g := by
  intro p l e s m args below meth c H locs la hF hP hS hH
  exact lv_lshr hF.1 hF.2.1 hd hv (k p l e s m args below meth c H locs la hF hP hS hH)
theorem sv_l2i {x : Int64} {a : Int} (hd : decode M.2.1 pc = .ok (.l2i, 1)) (hv : x.toInt32 = Int32.ofInt a) (k : sv_T X R M Z kc ks (pc + 1) ls (sv_i a :: st) S f r g) : sv_T X R M Z kc ks pc ls (sv_l x :: st) S f r g := by
  intro p l e s m args below meth c H locs la hF hP hS hH
  exact lv_l2i hF.1 hF.2.1 hd hv (k p l e s m args below meth c H locs la hF hP hS hH)
/-! what comes out is any int -/
theorem sv_any {x : Int} (k : ∀ z, sv_in z → sv_T X R M Z kc ks pc ls (sv_i z :: st) S f r g) : sv_T X R M Z kc ks pc ls (sv_i x :: st) S f r g := by
  intro p l e s m args below meth c H locs la hF hP hS hH
  have h := k (Int32.ofInt x).toInt (sv_in32 _) p l e s m args below meth c H locs la hF hP hS hH
  have e1 : sv_cv X.1 (sv_i (Int32.ofInt x).toInt) = sv_cv X.1 (sv_i x) := congrArg Value.int (Int32.ofInt_toInt _)
  rw [List.map_cons, e1] at h
  exact h
theorem sv_ishrU {x y : Int} (hd : decode M.2.1 pc = .ok (.ishr, 1)) (k : ∀ z, sv_in z → sv_T X R M Z kc ks (pc + 1) ls (sv_i z :: st) S f r g) : sv_T X R M Z kc ks pc ls (sv_i y :: sv_i x :: st) S f r g :=
  sv_ishr (z := (Int32.ofInt x >>> (Int32.ofInt y &&& 31)).toInt) hd (by rw [Int32.ofInt_toInt]) (k _ (sv_in32 _))
theorem sv_iandU {x y : Int} (hd : decode M.2.1 pc = .ok (.iand, 1)) (k : ∀ z, sv_in z → sv_T X R M Z kc ks (pc + 1) ls (sv_i z :: st) S f r g) : sv_T X R M Z kc ks pc ls (sv_i y :: sv_i x :: st) S f r g :=
  sv_iand (z := (Int32.ofInt x &&& Int32.ofInt y).toInt) hd (by rw [Int32.ofInt_toInt]) (k _ (sv_in32 _))
theorem sv_ixorU {x y : Int} (hd : decode M.2.1 pc = .ok (.ixor, 1)) (k : ∀ z, sv_in z → sv_T X R M Z kc ks (pc + 1) ls (sv_i z :: st) S f r g) : sv_T X R M Z kc ks pc ls (sv_i y :: sv_i x :: st) S f r g :=
  sv_ixor (z := (Int32.ofInt x ^^^ Int32.ofInt y).toInt) hd (by rw [Int32.ofInt_toInt]) (k _ (sv_in32 _))
theorem sv_mask (x : Int) : 0 ≤ (Int32.ofInt x &&& Int32.ofInt 2147483647).toInt := by
  have h1 : (Int32.ofInt x &&& Int32.ofInt 2147483647).toBitVec.msb = false := by
    rw [Int32.toBitVec_and, BitVec.msb_and]
    have : (Int32.ofInt 2147483647).toBitVec.msb = false := by decide +kernel
    rw [this, Bool.and_false]
  rw [BitVec.msb_eq_toInt] at h1
  have h2 : ¬ (Int32.ofInt x &&& Int32.ofInt 2147483647).toBitVec.toInt < 0 := of_decide_eq_false h1
  have h3 : (Int32.ofInt x &&& Int32.ofInt 2147483647).toInt = (Int32.ofInt x &&& Int32.ofInt 2147483647).toBitVec.toInt := rfl
  omega
theorem sv_iandM {x : Int} (hd : decode M.2.1 pc = .ok (.iand, 1)) (k : ∀ z, 0 ≤ z ∧ z ≤ 2147483647 → sv_T X R M Z kc ks (pc + 1) ls (sv_i z :: st) S f r g) : sv_T X R M Z kc ks pc ls (sv_i 2147483647 :: sv_i x :: st) S f r g :=
  sv_iand (z := (Int32.ofInt x &&& Int32.ofInt 2147483647).toInt) hd (by rw [Int32.ofInt_toInt]) (k _ ⟨sv_mask x, (sv_in32 _).2⟩)
/-! branches that are known -/
theorem sv_icmp_neT {x y off : Int} {tgt : Nat} (hd : decode M.2.1 pc = .ok (.if_icmp .ne off, 3)) (ht : (pc : Int) + off = (tgt : Int)) (h : x = y) (kf : sv_T X R M Z kc ks (pc + 3) ls st S f r g) : sv_T X R M Z kc ks pc ls (sv_i y :: sv_i x :: st) S f r g := by
  subst h
  intro p l e s m args below meth c H locs la hF hP hS hH
  exact lv_icmp_ne hF.1 hF.2.1 hd ht (fun q => absurd rfl q) (fun _ => kf p l e s m args below meth c H locs la hF hP hS hH)
theorem sv_icmp_eqT {x y off : Int} {tgt : Nat} (hd : decode M.2.1 pc = .ok (.if_icmp .eq off, 3)) (ht : (pc : Int) + off = (tgt : Int)) (h : x = y) (kt : sv_T X R M Z kc ks tgt ls st S f r g) : sv_T X R M Z kc ks pc ls (sv_i y :: sv_i x :: st) S f r g := by
  subst h
  intro p l e s m args below meth c H locs la hF hP hS hH
  exact lv_icmp_eq hF.1 hF.2.1 hd ht (fun _ => kt p l e s m args below meth c H locs la hF hP hS hH) (fun q => absurd rfl q)
/-! a new array of ints -/
theorem sv_aF {n : Int} {N a : Nat} (ha : S.1 = a) (hn : n = (N : Int)) (hN : N ≤ 100000) (hd : decode M.2.1 pc = .ok (.newarray .int, 2)) (hb : sv_bf S f) (hc : kc + 1 ≤ R.cells ∧ ks + N ≤ R.slots) (harr : Cond.arrayClass .int ∈ lw_tbl) (kk : ∀ S' : sv_S, S'.1 = a + 1 → S'.2 a = (6, N) → (∀ x, x < a → S'.2 x = S.2 x) → sv_T X R M Z (kc + 1) (ks + N) (pc + 2) ls (sv_r a :: st) S' f r g) : sv_T X R M Z kc ks pc ls (sv_i n :: st) S f r g := by
  subst ha
  intro p l e s m args below meth c H locs la hF hP hS hH
  have hKK := hF.2.2.2.2.2.2.2.1
  have hwt := hKK.1
  obtain ⟨n1, n2⟩ := sv_nat32 hn hN
  refine va_newaK hF.1 hF.2.1 (atype := .int) (hwt.use harr (by unfold sv_ok; exact Bool.or_true _)) rfl hd rfl n1 n2 (by show N * 4 ≤ _; omega) hc.1 hc.2 hP.2.1 fun H1 cA e1 z1 o1 hA hf => ?_
  have hcA : cA = X.2.2.1 0 := Option.some.inj (hf.symm.trans (hKK.2.1.2 0 _ rfl).2)
  subst hcA
  have ho : ∀ q, q < H.size → H1[q]? = H[q]? := fun q hq => o1 q (by rw [← hP.2.1]; exact hq)
  have b1 := hb S.1 (Nat.le_refl _)
  have hP1 : sv_P X (sv_S1 S 6 N) f r g H1 := by
    refine hP.grow (by rw [z1]; exact Nat.add_assoc _ _ _) ho (fun k hk => ⟨sv_S1_lt hk, rfl⟩) (fun k h1 h2 => ?_) (fun i => ?_)
    · obtain rfl : k = S.1 := by have : (sv_S1 S 6 N).1 = S.1 + 1 := rfl; omega
      rw [sv_S1_eq, sv_e_int, b1]
      exact e1
    · by_cases h : i = S.1
      · rw [h, sv_S1_eq]; exact hN
      · rw [show (sv_S1 S 6 N).2 i = S.2 i from if_neg h]; exact hP.2.2.2 i
  exact kk (sv_S1 S 6 N) rfl sv_S1_eq (fun x hx => sv_S1_lt hx) p l e s m args below meth c H1 locs la hF hP1 (sv_grown hS (by rw [z1, hP.2.1]; omega) ho) hH
theorem sv_sld {j : Int} (hj : 0 ≤ j ∧ j < (X.2.2.2.1.2.1 : Int)) (hd : decode M.2.1 pc = .ok (.iaload, 1)) (kk : sv_T X R M Z kc ks (pc + 1) ls (sv_i (X.2.2.2.1.2.2 j.toNat).toInt :: st) S f r g) : sv_T X R M Z kc ks pc ls (sv_i j :: sv_w X.2.2.2.1.1 :: st) S f r g := by
  intro p l e s m args below meth c H locs la hF hP hS hH
  have hKK := hF.2.2.2.2.2.2.2.1
  obtain ⟨h1, h2, h3, h4⟩ := hKK.2.2.1.1
  obtain ⟨v1, v2⟩ := sv_vp hj (by omega)
  refine va_sld hF.1 hF.2.1 h1 h4 (by omega) hS v1 hd ?_
  have hkk := kk p l e s m args below meth c H locs la hF hP hS hH
  rw [show (Int32.ofInt j).toNatClampNeg = j.toNat by omega]
  have : sv_cv X.1 (sv_i (X.2.2.2.1.2.2 j.toNat).toInt) = .int (X.2.2.2.1.2.2 j.toNat) := congrArg Value.int (Int32.ofInt_toInt _)
  rw [List.map_cons, this] at hkk
  exact hkk
theorem sv_slen (hd : decode M.2.1 pc = .ok (.arraylength, 1)) (kk : sv_T X R M Z kc ks (pc + 1) ls (sv_i (X.2.2.2.1.2.1 : Nat) :: st) S f r g) : sv_T X R M Z kc ks pc ls (sv_w X.2.2.2.1.1 :: st) S f r g := by
  intro p l e s m args below meth c H locs la hF hP hS hH
  have hKK := hF.2.2.2.2.2.2.2.1
  obtain ⟨h1, h2, h3, h4⟩ := hKK.2.2.1.1
  exact va_slen hF.1 hF.2.1 h1 h4 (by omega) hS hd (kk p l e s m args below meth c H locs la hF hP hS hH)
/-! a static call whatever it leaves -/
theorem sv_sq0 {M' : sv_M} {idx d mc ms n : Nat} {As : List sv_V} {Q : sv_Q} (hl : sv_cS M.1.cls idx M' n) (hd : decode M.2.1 pc = .ok (.invokestatic idx, 3)) (hn : As.length = n) (hst : 2 * st.length ≤ 8) (hR : d + 1 ≤ R.frames ∧ 8 + (M'.2.2.1 + 11) + 36 * d ≤ R.locals) (hc : kc + mc ≤ R.cells ∧ ks + ms ≤ R.slots)
    (hM : sv_C X d M' mc ms As S f r g Q) (kk : ∀ (rv : Option sv_V) (S' : sv_S) (f' : sv_F) (r' : sv_R) (g' : sv_G), Q rv S' f' r' g' → sv_T X R M Z (kc + mc) (ks + ms) (pc + 3) ls (rv.toList ++ st) S' f' r' g') : sv_T X R M Z kc ks pc ls (As.reverse ++ st) S f r g :=
  sv_callS hl hM hR hc hn hst hd kk
theorem sv_si0 {M' : sv_M} {idx d n : Nat} {As : List sv_V} {P : Int → sv_F → Prop} (hl : sv_cS M.1.cls idx M' n) (hd : decode M.2.1 pc = .ok (.invokestatic idx, 3)) (hn : As.length = n) (hst : 2 * st.length ≤ 8) (hR : d + 1 ≤ R.frames ∧ 8 + (M'.2.2.1 + 11) + 36 * d ≤ R.locals) (hc : kc ≤ R.cells ∧ ks ≤ R.slots)
    (hM : sv_C X d M' 0 0 As S f r g (sv_qi P S r g)) (kk : ∀ a f', P a f' → sv_T X R M Z kc ks (pc + 3) ls (sv_i a :: st) S f' r g) : sv_T X R M Z kc ks pc ls (As.reverse ++ st) S f r g := by
  refine sv_callS hl hM hR hc hn hst hd fun rv S' f' r' g' ⟨a, h1, h2, h3, h4, h5⟩ => ?_
  subst h1; subst h2; subst h3; subst h4
  exact kk _ _ h5
end SVROWS2
