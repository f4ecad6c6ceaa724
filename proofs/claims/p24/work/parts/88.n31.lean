abbrev MJ0_length_8abf5 : sv_M := (yJ0_length_8abf5, cJ0_length_8abf5, 1, some .int)
abbrev MJ0_charAt_5068e : sv_M := (yJ0_charAt_5068e, cJ0_charAt_5068e, 2, some .char)
abbrev MJ0_coder_7d493 : sv_M := (yJ0_coder_7d493, cJ0_coder_7d493, 1, some .byte)
abbrev MJ0_isLatin1_aae02 : sv_M := (yJ0_isLatin1_aae02, cJ0_isLatin1_aae02, 1, some .boolean)
abbrev MJ0_checkIndex_df160 : sv_M := (yJ0_checkIndex_df160, cJ0_checkIndex_df160, 2, none)
abbrev MJ1_charAt_3b067 : sv_M := (yJ1_charAt_3b067, cJ1_charAt_3b067, 2, some .char)
abbrev MJ3_checkIndex_8e157 : sv_M := (yJ3_checkIndex_8e157, cJ3_checkIndex_8e157, 3, some .int)
theorem ckJ0_length_8abf5 : Cond.code MJ0_length_8abf5.1 MJ0_length_8abf5.2.1 MJ0_length_8abf5.2.2.1 MJ0_length_8abf5.2.2.2 ∈ lw_tbl ∧ Cond.initialized MJ0_length_8abf5.1.cls ∈ lw_tbl ∧ (MJ0_length_8abf5.1.cls ≠ "java/lang/invoke/MethodHandle" ∧ MJ0_length_8abf5.1.cls ≠ "java/lang/invoke/VarHandle") ∧ (parseMethodDescriptor MJ0_length_8abf5.1.desc).map (fun d => d.parameters.length) = some 0 := ⟨List.mem_of_getElem? (i := 476) (by decide +kernel), List.mem_of_getElem? (i := 56) (by decide +kernel), ⟨by decide +kernel, by decide +kernel⟩, by decide +kernel⟩
theorem ckJ0_charAt_5068e : Cond.code MJ0_charAt_5068e.1 MJ0_charAt_5068e.2.1 MJ0_charAt_5068e.2.2.1 MJ0_charAt_5068e.2.2.2 ∈ lw_tbl ∧ Cond.initialized MJ0_charAt_5068e.1.cls ∈ lw_tbl ∧ (MJ0_charAt_5068e.1.cls ≠ "java/lang/invoke/MethodHandle" ∧ MJ0_charAt_5068e.1.cls ≠ "java/lang/invoke/VarHandle") ∧ (parseMethodDescriptor MJ0_charAt_5068e.1.desc).map (fun d => d.parameters.length) = some 1 := ⟨List.mem_of_getElem? (i := 486) (by decide +kernel), List.mem_of_getElem? (i := 56) (by decide +kernel), ⟨by decide +kernel, by decide +kernel⟩, by decide +kernel⟩
theorem ckJ0_coder_7d493 : Cond.code MJ0_coder_7d493.1 MJ0_coder_7d493.2.1 MJ0_coder_7d493.2.2.1 MJ0_coder_7d493.2.2.2 ∈ lw_tbl ∧ Cond.initialized MJ0_coder_7d493.1.cls ∈ lw_tbl ∧ (MJ0_coder_7d493.1.cls ≠ "java/lang/invoke/MethodHandle" ∧ MJ0_coder_7d493.1.cls ≠ "java/lang/invoke/VarHandle") ∧ (parseMethodDescriptor MJ0_coder_7d493.1.desc).map (fun d => d.parameters.length) = some 0 := ⟨List.mem_of_getElem? (i := 480) (by decide +kernel), List.mem_of_getElem? (i := 56) (by decide +kernel), ⟨by decide +kernel, by decide +kernel⟩, by decide +kernel⟩
theorem ckJ0_isLatin1_aae02 : Cond.code MJ0_isLatin1_aae02.1 MJ0_isLatin1_aae02.2.1 MJ0_isLatin1_aae02.2.2.1 MJ0_isLatin1_aae02.2.2.2 ∈ lw_tbl ∧ Cond.initialized MJ0_isLatin1_aae02.1.cls ∈ lw_tbl ∧ (MJ0_isLatin1_aae02.1.cls ≠ "java/lang/invoke/MethodHandle" ∧ MJ0_isLatin1_aae02.1.cls ≠ "java/lang/invoke/VarHandle") ∧ (parseMethodDescriptor MJ0_isLatin1_aae02.1.desc).map (fun d => d.parameters.length) = some 0 := ⟨List.mem_of_getElem? (i := 490) (by decide +kernel), List.mem_of_getElem? (i := 56) (by decide +kernel), ⟨by decide +kernel, by decide +kernel⟩, by decide +kernel⟩
theorem ckJ0_checkIndex_df160 : Cond.code MJ0_checkIndex_df160.1 MJ0_checkIndex_df160.2.1 MJ0_checkIndex_df160.2.2.1 MJ0_checkIndex_df160.2.2.2 ∈ lw_tbl ∧ Cond.initialized MJ0_checkIndex_df160.1.cls ∈ lw_tbl ∧ (MJ0_checkIndex_df160.1.cls ≠ "java/lang/invoke/MethodHandle" ∧ MJ0_checkIndex_df160.1.cls ≠ "java/lang/invoke/VarHandle") ∧ (parseMethodDescriptor MJ0_checkIndex_df160.1.desc).map (fun d => d.parameters.length) = some 2 := ⟨List.mem_of_getElem? (i := 496) (by decide +kernel), List.mem_of_getElem? (i := 56) (by decide +kernel), ⟨by decide +kernel, by decide +kernel⟩, by decide +kernel⟩
theorem ckJ1_charAt_3b067 : Cond.code MJ1_charAt_3b067.1 MJ1_charAt_3b067.2.1 MJ1_charAt_3b067.2.2.1 MJ1_charAt_3b067.2.2.2 ∈ lw_tbl ∧ Cond.initialized MJ1_charAt_3b067.1.cls ∈ lw_tbl ∧ (MJ1_charAt_3b067.1.cls ≠ "java/lang/invoke/MethodHandle" ∧ MJ1_charAt_3b067.1.cls ≠ "java/lang/invoke/VarHandle") ∧ (parseMethodDescriptor MJ1_charAt_3b067.1.desc).map (fun d => d.parameters.length) = some 2 := ⟨List.mem_of_getElem? (i := 493) (by decide +kernel), List.mem_of_getElem? (i := 57) (by decide +kernel), ⟨by decide +kernel, by decide +kernel⟩, by decide +kernel⟩
theorem ckJ3_checkIndex_8e157 : Cond.code MJ3_checkIndex_8e157.1 MJ3_checkIndex_8e157.2.1 MJ3_checkIndex_8e157.2.2.1 MJ3_checkIndex_8e157.2.2.2 ∈ lw_tbl ∧ Cond.initialized MJ3_checkIndex_8e157.1.cls ∈ lw_tbl ∧ (MJ3_checkIndex_8e157.1.cls ≠ "java/lang/invoke/MethodHandle" ∧ MJ3_checkIndex_8e157.1.cls ≠ "java/lang/invoke/VarHandle") ∧ (parseMethodDescriptor MJ3_checkIndex_8e157.1.desc).map (fun d => d.parameters.length) = some 3 := ⟨List.mem_of_getElem? (i := 501) (by decide +kernel), List.mem_of_getElem? (i := 58) (by decide +kernel), ⟨by decide +kernel, by decide +kernel⟩, by decide +kernel⟩
theorem clJ0_335 : sv_cV RJ0 335 MJ0_coder_7d493 0 := ⟨⟨ckJ0_coder_7d493.1, ckJ0_coder_7d493.2.1, ckJ0_coder_7d493.2.2.1, ckJ0_coder_7d493.2.2.2, Or.inl (List.mem_of_getElem? (i := 477) (by decide +kernel))⟩, List.mem_of_getElem? (i := 478) (by decide +kernel), List.mem_of_getElem? (i := 479) (by decide +kernel)⟩
theorem clJ0_492 : sv_cV RJ0 492 MJ0_isLatin1_aae02 0 := ⟨⟨ckJ0_isLatin1_aae02.1, ckJ0_isLatin1_aae02.2.1, ckJ0_isLatin1_aae02.2.2.1, ckJ0_isLatin1_aae02.2.2.2, Or.inl (List.mem_of_getElem? (i := 487) (by decide +kernel))⟩, List.mem_of_getElem? (i := 488) (by decide +kernel), List.mem_of_getElem? (i := 489) (by decide +kernel)⟩
theorem clJ0_495 : sv_cS RJ0 495 MJ1_charAt_3b067 2 := ⟨⟨ckJ1_charAt_3b067.1, ckJ1_charAt_3b067.2.1, ckJ1_charAt_3b067.2.2.1, ckJ1_charAt_3b067.2.2.2, Or.inl (List.mem_of_getElem? (i := 491) (by decide +kernel))⟩, List.mem_of_getElem? (i := 492) (by decide +kernel)⟩
theorem clJ1_9 : sv_cS RJ1 9 MJ0_checkIndex_df160 2 := ⟨⟨ckJ0_checkIndex_df160.1, ckJ0_checkIndex_df160.2.1, ckJ0_checkIndex_df160.2.2.1, ckJ0_checkIndex_df160.2.2.2, Or.inl (List.mem_of_getElem? (i := 494) (by decide +kernel))⟩, List.mem_of_getElem? (i := 495) (by decide +kernel)⟩
theorem clJ0_1059 : sv_cS RJ0 1059 MJ3_checkIndex_8e157 3 := ⟨⟨ckJ3_checkIndex_8e157.1, ckJ3_checkIndex_8e157.2.1, ckJ3_checkIndex_8e157.2.2.1, ckJ3_checkIndex_8e157.2.2.2, Or.inl (List.mem_of_getElem? (i := 499) (by decide +kernel))⟩, List.mem_of_getElem? (i := 500) (by decide +kernel)⟩
theorem clX3_109 : sv_cV RX3 109 MJ0_length_8abf5 0 := ⟨⟨ckJ0_length_8abf5.1, ckJ0_length_8abf5.2.1, ckJ0_length_8abf5.2.2.1, ckJ0_length_8abf5.2.2.2, Or.inl (List.mem_of_getElem? (i := 473) (by decide +kernel))⟩, List.mem_of_getElem? (i := 474) (by decide +kernel), List.mem_of_getElem? (i := 475) (by decide +kernel)⟩
theorem clX3_113 : sv_cV RX3 113 MJ0_charAt_5068e 1 := ⟨⟨ckJ0_charAt_5068e.1, ckJ0_charAt_5068e.2.1, ckJ0_charAt_5068e.2.2.1, ckJ0_charAt_5068e.2.2.2, Or.inl (List.mem_of_getElem? (i := 483) (by decide +kernel))⟩, List.mem_of_getElem? (i := 484) (by decide +kernel), List.mem_of_getElem? (i := 485) (by decide +kernel)⟩
/-- the k-th word's letters -/
def sv_ch (k : Nat) : Int → Int := match k with
  | 0 => sp_l3 115 101 116
  | 1 => sp_l3 97 100 100
  | 2 => sp_l4 115 119 97 112
  | 3 => sp_l4 102 105 108 108
  | _ => sp_l4 116 117 114 110
def sv_ln (k : Nat) : Nat := sv_lens.getD k 0
theorem sv_ln_in (k : Nat) : sv_ln k ≤ 4 := by
  match k with
  | 0 => decide
  | 1 => decide
  | 2 => decide
  | 3 => decide
  | 4 => decide
  | k + 5 => simp [sv_ln, sv_lens]
theorem sv_ch_b : ∀ k, k < 5 → ∀ i, i < sv_ln k → (sv_byts.getD k []).getD i 0 = Int32.ofInt (sv_ch k i) ∧ 0 ≤ sv_ch k i ∧ sv_ch k i ≤ 127 ∧ Int32.ofInt (sv_ch k i) &&& Int32.ofInt 255 = Int32.ofInt (sv_ch k i) ∧ ((Int32.ofInt (sv_ch k i)).toUInt32 % 65536).toInt32 = Int32.ofInt (sv_ch k i) ∧ narrow .char (.int (Int32.ofInt (sv_ch k i))) = .int (Int32.ofInt (sv_ch k i)) := by decide +kernel
abbrev sv_aK (X : sv_X) (k : Nat) : Nat := X.2.2.2.2.1 k
abbrev sv_aV (X : sv_X) (k : Nat) : Nat := X.2.2.2.2.2 k
section SVSTR
variable {X : sv_X} {R : Room} {M : sv_M} {Z : sv_Z} {kc ks : Nat} {pc : Nat} {ls : sv_L} {st : List sv_V} {S : sv_S} {f : sv_F} {r : sv_R} {g : sv_G}
theorem sv_nreturn {Q : sv_Q} {mc ms : Nat} {a : Int} {ty : FieldType} (hd : decode M.2.1 pc = .ok (.ireturn, 1)) (hr : M.2.2.2 = some ty) (ha : narrow ty (.int (Int32.ofInt a)) = .int (Int32.ofInt a)) (hq : Q (some (sv_i a)) S f r g) : sv_T X R M (sv_Zm X mc ms Q) mc ms pc ls [sv_i a] S f r g := by
  intro p l e s m args below meth c H locs la hF hP hS hH
  have hlocks := hF.2.2.2.2.2.1
  exact W.zret hF.1 hF.2.1 (hF.2.2.1.trans hr) ha (fun t ht hW => ⟨⟨_, _, _, _, _, rfl, hq, by rw [ht]; exact hP⟩, hS.F ht⟩) hS.2.2 hd
theorem sv_i2c {x z : Int} (hd : decode M.2.1 pc = .ok (.i2c, 1)) (hz : ((Int32.ofInt x).toUInt32 % 65536).toInt32 = Int32.ofInt z) (k : sv_T X R M Z kc ks (pc + 1) ls (sv_i z :: st) S f r g) : sv_T X R M Z kc ks pc ls (sv_i x :: st) S f r g := by
  intro p l e s m args below meth c H locs la hF hP hS hH
  exact lv_i2c hF.1 hF.2.1 hd hz (k p l e s m args below meth c H locs la hF hP hS hH)
theorem sv_ldcS {i k : Nat} (hk : k < 5) (hc : M.1.cls = "StateVault$Script") (hi : (sv_txt k).1 = i) (hd : decode M.2.1 pc = .ok (.ldc i, 2)) (kk : sv_T X R M Z kc ks (pc + 2) ls (sv_w (sv_aK X k) :: st) S f r g) : sv_T X R M Z kc ks pc ls st S f r g := by
  intro p l e s m args below meth c H locs la hF hP hS hH
  subst hi
  exact va_ldcS hF.1 hF.2.1 (own := "StateVault$Script") (by rw [← hc]; exact hF.2.2.2.2.1) (hF.2.2.2.2.2.2.2.1.2.2.1.2.2.1 k hk) hd (kk p l e s m args below meth c H locs la hF hP hS hH)
theorem sv_gcs (hc : M.1.cls = "java/lang/String") (hd : decode M.2.1 pc = .ok (.getstatic 38, 3)) (kk : sv_T X R M Z kc ks (pc + 3) ls (sv_i 1 :: st) S f r g) : sv_T X R M Z kc ks pc ls st S f r g := by
  intro p l e s m args below meth c H locs la hF hP hS hH
  have hKK := hF.2.2.2.2.2.2.2.1
  have hkk := kk p l e s m args below meth c H locs la hF hP hS hH
  exact va_gets hF.1 hF.2.1 (own := "java/lang/String") hKK.2.2.1.2.2.2.1 hS (by rw [← hc]; exact hF.2.2.2.2.1) (hKK.1.use (List.mem_of_getElem? (i := 481) (by decide +kernel)) rfl) (fun _ h => h) hd hkk
theorem sv_gsf (hc : M.1.cls = "java/lang/String") (hd : decode M.2.1 pc = .ok (.getstatic 1053, 3)) (k0 : sv_T X R M Z kc ks (pc + 3) ls (sv_n :: st) S f r g) (kk : ∀ q : Nat, sv_T X R M Z kc ks (pc + 3) ls (sv_w q :: st) S f r g) : sv_T X R M Z kc ks pc ls st S f r g := by
  intro p l e s m args below meth c H locs la hF hP hS hH
  have hKK := hF.2.2.2.2.2.2.2.1
  have hlk := hKK.1.use (A := args) (w := Cond.fieldLink "java/lang/String" 1053 "jdk/internal/util/Preconditions" "SIOOBE_FORMATTER" "Ljava/util/function/BiFunction;") (List.mem_of_getElem? (i := 497) (by decide +kernel)) rfl
  rcases hKK.2.2.1.2.2.2.2 with hq | ⟨q, hq⟩
  · exact va_gets hF.1 hF.2.1 (own := "java/lang/String") hq hS (by rw [← hc]; exact hF.2.2.2.2.1) hlk (fun _ h => h) hd (k0 p l e s m args below meth c H locs la hF hP hS hH)
  · exact va_gets hF.1 hF.2.1 (own := "java/lang/String") hq hS (by rw [← hc]; exact hF.2.2.2.2.1) hlk (fun _ h => h) hd (kk q p l e s m args below meth c H locs la hF hP hS hH)
theorem sv_gco {k : Nat} (hk : k < 5) (hc : M.1.cls = "java/lang/String") (hd : decode M.2.1 pc = .ok (.getfield 15, 3)) (kk : sv_T X R M Z kc ks (pc + 3) ls (sv_i 0 :: st) S f r g) : sv_T X R M Z kc ks pc ls (sv_w (sv_aK X k) :: st) S f r g := by
  intro p l e s m args below meth c H locs la hF hP hS hH
  have hKK := hF.2.2.2.2.2.2.2.1
  have hkk := kk p l e s m args below meth c H locs la hF hP hS hH
  exact vk_getf hF.1 hF.2.1 (own := "java/lang/String") (hKK.2.2.1.2.1.1 k hk).2.1 hS (by rw [← hc]; exact hF.2.2.2.2.1) (hKK.1.use (List.mem_of_getElem? (i := 642) (by decide +kernel)) rfl) (fun _ h => h) hd hkk
theorem sv_gva {k : Nat} (hk : k < 5) (hc : M.1.cls = "java/lang/String") (hd : decode M.2.1 pc = .ok (.getfield 9, 3)) (kk : sv_T X R M Z kc ks (pc + 3) ls (sv_w (sv_aV X k) :: st) S f r g) : sv_T X R M Z kc ks pc ls (sv_w (sv_aK X k) :: st) S f r g := by
  intro p l e s m args below meth c H locs la hF hP hS hH
  have hKK := hF.2.2.2.2.2.2.2.1
  have hkk := kk p l e s m args below meth c H locs la hF hP hS hH
  exact vk_getf hF.1 hF.2.1 (own := "java/lang/String") (hKK.2.2.1.2.1.1 k hk).2.2.1 hS (by rw [← hc]; exact hF.2.2.2.2.1) (hKK.1.use (List.mem_of_getElem? (i := 641) (by decide +kernel)) rfl) (fun _ h => h) hd hkk
theorem sv_wlen {k : Nat} (hk : k < 5) (hd : decode M.2.1 pc = .ok (.arraylength, 1)) (kk : sv_T X R M Z kc ks (pc + 1) ls (sv_i (sv_ln k) :: st) S f r g) : sv_T X R M Z kc ks pc ls (sv_w (sv_aV X k) :: st) S f r g := by
  intro p l e s m args below meth c H locs la hF hP hS hH
  have hKK := hF.2.2.2.2.2.2.2.1
  have hkk := kk p l e s m args below meth c H locs la hF hP hS hH
  exact va_tlen hF.1 hF.2.1 (hKK.2.2.1.2.1.1 k hk).2.2.2 hS (v := Int32.ofInt (sv_ln k)) rfl hd hkk
theorem sv_wbld {k : Nat} {i : Int} (hk : k < 5) (hi : 0 ≤ i ∧ i < (sv_ln k : Int)) (hd : decode M.2.1 pc = .ok (.baload, 1)) (kk : sv_T X R M Z kc ks (pc + 1) ls (sv_i (sv_ch k i) :: st) S f r g) : sv_T X R M Z kc ks pc ls (sv_i i :: sv_w (sv_aV X k) :: st) S f r g := by
  intro p l e s m args below meth c H locs la hF hP hS hH
  have hKK := hF.2.2.2.2.2.2.2.1
  have hkk := kk p l e s m args below meth c H locs la hF hP hS hH
  have h4 := sv_ln_in k
  obtain ⟨v1, v2⟩ := sv_vp hi (by omega)
  obtain ⟨c1, -⟩ := sv_ch_b k hk (Int32.ofInt i).toNatClampNeg (by omega)
  refine va_tb hF.1 hF.2.1 (hKK.2.2.1.2.1.1 k hk).2.2.2 hS v1 (v := .int (Int32.ofInt (sv_ch k i))) ?_ hd hkk
  show Value.int ((sv_byts.getD k []).getD (Int32.ofInt i).toNatClampNeg 0) = _
  rw [c1, v2]
theorem sv_callW {M' : sv_M} {idx d mc ms k n : Nat} {As rest : List sv_V} {Q : sv_Q} (hl : sv_cV M.1.cls idx M' n) (hM : sv_C X d M' mc ms (sv_w (sv_aK X k) :: As) S f r g Q) (hR : d + 1 ≤ R.frames ∧ 8 + (M'.2.2.1 + 11) + 36 * d ≤ R.locals) (hc : kc + mc ≤ R.cells ∧ ks + ms ≤ R.slots) (hk : k < 5) (hcl : M'.1.cls = "java/lang/String") (hn : As.length = n) (hst : 2 * rest.length ≤ 8) (hd : decode M.2.1 pc = .ok (.invokevirtual idx, 3))
    (kk : ∀ (rv : Option sv_V) (S' : sv_S) (f' : sv_F) (r' : sv_R) (g' : sv_G), Q rv S' f' r' g' → sv_T X R M Z (kc + mc) (ks + ms) (pc + 3) ls (rv.toList ++ rest) S' f' r' g') : sv_T X R M Z kc ks pc ls (As.reverse ++ sv_w (sv_aK X k) :: rest) S f r g := by
  intro p l e s m args below meth c H locs la hF hP hS hH
  have hKK := hF.2.2.2.2.2.2.2.1
  have hz := hF.2.2.2.2.2.2.2.2
  obtain ⟨⟨h1, h2, h3, h4, h5⟩, h6, h7⟩ := hl
  have hwt := hKK.1
  have hrecv := vk_recv hKK.2.2.1.2.1 hk hS
  rw [← hcl] at hrecv
  have hcat := sv_roomy (m := m) (pc := pc) (la := la) (b := X.1) hst
  have go : va_Run p l e R s m args below meth c H locs kc ks mc ms (F0 m pc la ((As.reverse ++ sv_w (sv_aK X k) :: rest).map (sv_cv X.1))) (rest.map (sv_cv X.1)) (sv_Qc X Q (Value.ref (sv_aK X k) :: As.map (sv_cv X.1)).toArray) (fun q => X.1 ≤ q) := by
    have hpv : PreV s H M'.1.cls (sv_aK X k) (va_Pc ((sv_w (sv_aK X k) :: As).map (sv_cv X.1)) (sv_Pc X S f r g)) (As.map (sv_cv X.1)) := ⟨sv_blind, hrecv, fun U hU hW => sv_pc hKK hz hS hP U hU hW⟩
    have hnp : ∀ sig, parseMethodDescriptor M'.1.desc = some sig → n = sig.parameters.length := fun sig hs => by
      rw [hs] at h4
      exact (Option.some.inj h4).symm
    have hstk : (F0 m pc la ((As.reverse ++ sv_w (sv_aK X k) :: rest).map (sv_cv X.1))).stack = (As.map (sv_cv X.1)).reverse ++ .ref (sv_aK X k) :: rest.map (sv_cv X.1) := by
      show (As.reverse ++ sv_w (sv_aK X k) :: rest).map (sv_cv X.1) = _
      rw [List.map_append, List.map_reverse]
      rfl
    rcases h5 with h5 | ⟨host, h5⟩
    · exact va_runV (Ts := []) ⟨hF.1, hF.2.1, hF.2.2.2.1, hF.2.2.2.2.1, fun _ h => by cases h⟩ (hM l) ⟨⟨rfl, rfl, hR.1, hR.2, sv_good hwt h1, List.mem_cons_self, hwt.use h1 rfl, hwt.use h2 rfl, h3, hnp, hwt.use h5 rfl⟩, hwt.use h6 rfl, hwt.use h7 rfl⟩ hpv rfl (by rw [List.length_map]; exact hn) hH.1 hstk hcat hd hc
    · exact va_runVN (Ts := []) ⟨hF.1, hF.2.1, hF.2.2.2.1, hF.2.2.2.2.1, fun _ h => by cases h⟩ (hM l) ⟨⟨⟨rfl, rfl, hR.1, hR.2, sv_good hwt h1, List.mem_cons_self⟩, hwt.use h1 rfl, hwt.use h2 rfl, h3, hnp, hwt.use h5 (by unfold sv_ok; exact Bool.or_true _)⟩, hwt.use h6 rfl, hwt.use h7 rfl⟩ hpv rfl (by rw [List.length_map]; exact hn) hH.1 hstk hcat hd hc
  refine sv_goes go hS fun rv S' f' r' g' H1 locs1 hq hP1 hS1 => ?_
  have := kk rv S' f' r' g' hq p l e s m args below meth c H1 locs1 la hF hP1 hS1 hH
  rw [List.map_append] at this
  cases rv <;> exact this
theorem sv_wp0 {M' : sv_M} {idx d k n : Nat} {As : List sv_V} {v : sv_V} (hl : sv_cV M.1.cls idx M' n) (hd : decode M.2.1 pc = .ok (.invokevirtual idx, 3)) (hcl : M'.1.cls = "java/lang/String") (hn : As.length = n) (hst : 2 * st.length ≤ 8) (hR : d + 1 ≤ R.frames ∧ 8 + (M'.2.2.1 + 11) + 36 * d ≤ R.locals) (hc : kc ≤ R.cells ∧ ks ≤ R.slots) (hk : k < 5)
    (hM : sv_C X d M' 0 0 (sv_w (sv_aK X k) :: As) S f r g (sv_qp (some v) S f r g)) (kk : sv_T X R M Z kc ks (pc + 3) ls (v :: st) S f r g) : sv_T X R M Z kc ks pc ls (As.reverse ++ sv_w (sv_aK X k) :: st) S f r g := by
  refine sv_callW hl hM hR hc hk hcl hn hst hd fun rv S' f' r' g' hq => ?_
  obtain ⟨rfl, rfl, rfl, rfl, rfl⟩ := hq
  exact kk
end SVSTR
set_option maxRecDepth 100000 in
set_option maxHeartbeats 4000000 in
theorem c_J3_checkIndex_8e157 {X : sv_X} {S : sv_S} {f : sv_F} {r : sv_R} {g : sv_G} {a b : Int} {w : Nat} (ha : 0 ≤ a ∧ a < b ∧ b ≤ 1000) : sv_C X 0 MJ3_checkIndex_8e157 0 0 [sv_i a, sv_i b, sv_w w] S f r g (sv_qp (some (sv_i a)) S f r g) := by
  refine sv_met (by decide) (by simp [lg_sl, sv_cv, va_rf, Value.category]) ?_
  refine sv_iload_n (i := 0) dJ3_checkIndex_8e157_0 rfl rfl ?_
  refine sv_if_lt (tgt := 9) dJ3_checkIndex_8e157_1 (by decide) (by unfold sv_in; omega) (fun h => absurd h (by omega)) (fun _ => ?_)
  refine sv_iload_n (i := 0) dJ3_checkIndex_8e157_4 rfl rfl ?_
  refine sv_iload_n (i := 1) dJ3_checkIndex_8e157_5 rfl rfl ?_
  refine sv_icmp_lt (tgt := 16) dJ3_checkIndex_8e157_6 (by decide) (by unfold sv_in; omega) (by unfold sv_in; omega) (fun _ => ?_) (fun h => absurd h (by omega))
  refine sv_iload_n (i := 0) dJ3_checkIndex_8e157_16 rfl rfl ?_
  refine sv_ireturn dJ3_checkIndex_8e157_17 rfl ?_
  exact ⟨rfl, rfl, rfl, rfl, rfl⟩
set_option maxRecDepth 100000 in
set_option maxHeartbeats 4000000 in
theorem c_J3_checkIndexN {X : sv_X} {S : sv_S} {f : sv_F} {r : sv_R} {g : sv_G} {a b : Int} (ha : 0 ≤ a ∧ a < b ∧ b ≤ 1000) : sv_C X 0 MJ3_checkIndex_8e157 0 0 [sv_i a, sv_i b, sv_n] S f r g (sv_qp (some (sv_i a)) S f r g) := by
  refine sv_met (by decide) (by simp [lg_sl, sv_cv, va_rf, Value.category]) ?_
  refine sv_iload_n (i := 0) dJ3_checkIndex_8e157_0 rfl rfl ?_
  refine sv_if_lt (tgt := 9) dJ3_checkIndex_8e157_1 (by decide) (by unfold sv_in; omega) (fun h => absurd h (by omega)) (fun _ => ?_)
  refine sv_iload_n (i := 0) dJ3_checkIndex_8e157_4 rfl rfl ?_
  refine sv_iload_n (i := 1) dJ3_checkIndex_8e157_5 rfl rfl ?_
  refine sv_icmp_lt (tgt := 16) dJ3_checkIndex_8e157_6 (by decide) (by unfold sv_in; omega) (by unfold sv_in; omega) (fun _ => ?_) (fun h => absurd h (by omega))
  refine sv_iload_n (i := 0) dJ3_checkIndex_8e157_16 rfl rfl ?_
  refine sv_ireturn dJ3_checkIndex_8e157_17 rfl ?_
  exact ⟨rfl, rfl, rfl, rfl, rfl⟩
set_option maxRecDepth 100000 in
set_option maxHeartbeats 4000000 in
theorem c_J0_checkIndex_df160 {X : sv_X} {S : sv_S} {f : sv_F} {r : sv_R} {g : sv_G} {a b : Int} (ha : 0 ≤ a ∧ a < b ∧ b ≤ 1000) : sv_C X 1 MJ0_checkIndex_df160 0 0 [sv_i a, sv_i b] S f r g (sv_qv (fun f' => f' = f) S r g) := by
  refine sv_met (by decide) (by simp [lg_sl, sv_cv, va_rf, Value.category]) ?_
  refine sv_iload_n (i := 0) dJ0_checkIndex_df160_0 rfl rfl ?_
  refine sv_iload_n (i := 1) dJ0_checkIndex_df160_1 rfl rfl ?_
  refine sv_gsf rfl dJ0_checkIndex_df160_2 ?_ fun q => ?_
  · refine sv_sp0 (As := [_, _, _]) clJ0_1059 dJ0_checkIndex_df160_5 rfl (Nat.le_of_ble_eq_true rfl) (by decide) (by decide) (c_J3_checkIndexN ha) ?_
    refine sv_pop dJ0_checkIndex_df160_8 rfl ?_
    refine sv_return dJ0_checkIndex_df160_9 rfl ?_
    exact ⟨rfl, rfl, rfl, rfl, rfl⟩
  · refine sv_sp0 (As := [_, _, _]) clJ0_1059 dJ0_checkIndex_df160_5 rfl (Nat.le_of_ble_eq_true rfl) (by decide) (by decide) (c_J3_checkIndex_8e157 ha) ?_
    refine sv_pop dJ0_checkIndex_df160_8 rfl ?_
    refine sv_return dJ0_checkIndex_df160_9 rfl ?_
    exact ⟨rfl, rfl, rfl, rfl, rfl⟩
set_option maxRecDepth 100000 in
set_option maxHeartbeats 4000000 in
theorem c_J1_charAt_3b067 {X : sv_X} {S : sv_S} {f : sv_F} {r : sv_R} {g : sv_G} {k : Nat} {i : Int} (hk : k < 5) (hi : 0 ≤ i ∧ i < (sv_ln k : Int)) : sv_C X 2 MJ1_charAt_3b067 0 0 [sv_w (sv_aV X k), sv_i i] S f r g (sv_qp (some (sv_i (sv_ch k i))) S f r g) := by
  refine sv_met (by decide) (by simp [lg_sl, sv_cv, va_rf, Value.category]) ?_
  have h4 := sv_ln_in k
  obtain ⟨c1, c2, c3, c4, c5, c6⟩ := sv_ch_b k hk i.toNat (by omega)
  rw [show ((i.toNat : Nat) : Int) = i by omega] at c1 c2 c3 c4 c5 c6
  refine sv_iload_n (i := 1) dJ1_charAt_3b067_0 rfl rfl ?_
  refine sv_wload_n (i := 0) dJ1_charAt_3b067_1 rfl rfl ?_
  refine sv_wlen hk dJ1_charAt_3b067_2 ?_
  refine sv_sv0 (As := [_, _]) clJ1_9 dJ1_charAt_3b067_3 rfl (Nat.le_of_ble_eq_true rfl) (by decide) (by decide) (c_J0_checkIndex_df160 (by omega)) (fun f1 hf1 => ?_)
  subst hf1
  refine sv_wload_n (i := 0) dJ1_charAt_3b067_6 rfl rfl ?_
  refine sv_iload_n (i := 1) dJ1_charAt_3b067_7 rfl rfl ?_
  refine sv_wbld hk hi dJ1_charAt_3b067_8 ?_
  refine sv_sipush dJ1_charAt_3b067_9 (by decide) ?_
  refine sv_iand dJ1_charAt_3b067_12 c4 ?_
  refine sv_i2c dJ1_charAt_3b067_13 c5 ?_
  refine sv_nreturn dJ1_charAt_3b067_14 rfl c6 ?_
  exact ⟨rfl, rfl, rfl, rfl, rfl⟩
set_option maxRecDepth 100000 in
set_option maxHeartbeats 4000000 in
theorem c_J0_isLatin1_aae02 {X : sv_X} {S : sv_S} {f : sv_F} {r : sv_R} {g : sv_G} {k : Nat} (hk : k < 5) : sv_C X 0 MJ0_isLatin1_aae02 0 0 [sv_w (sv_aK X k)] S f r g (sv_qp (some (sv_i 1)) S f r g) := by
  refine sv_met (by decide) (by simp [lg_sl, sv_cv, va_rf, Value.category]) ?_
  refine sv_gcs rfl dJ0_isLatin1_aae02_0 ?_
  refine sv_if_eq (tgt := 17) dJ0_isLatin1_aae02_3 (by decide) (by decide) (fun h => absurd h (by decide)) (fun _ => ?_)
  refine sv_wload_n (i := 0) dJ0_isLatin1_aae02_6 rfl rfl ?_
  refine sv_gco hk rfl dJ0_isLatin1_aae02_7 ?_
  refine sv_if_ne (tgt := 17) dJ0_isLatin1_aae02_10 (by decide) (by decide) (fun h => absurd rfl h) (fun _ => ?_)
  refine sv_iconst dJ0_isLatin1_aae02_13 ?_
  refine sv_goto (tgt := 18) dJ0_isLatin1_aae02_14 (by decide) ?_
  refine sv_zreturn dJ0_isLatin1_aae02_18 rfl (by decide) ?_
  exact ⟨rfl, rfl, rfl, rfl, rfl⟩
set_option maxRecDepth 100000 in
set_option maxHeartbeats 4000000 in
theorem c_J0_coder_7d493 {X : sv_X} {S : sv_S} {f : sv_F} {r : sv_R} {g : sv_G} {k : Nat} (hk : k < 5) : sv_C X 0 MJ0_coder_7d493 0 0 [sv_w (sv_aK X k)] S f r g (sv_qp (some (sv_i 0)) S f r g) := by
  refine sv_met (by decide) (by simp [lg_sl, sv_cv, va_rf, Value.category]) ?_
  refine sv_gcs rfl dJ0_coder_7d493_0 ?_
  refine sv_if_eq (tgt := 13) dJ0_coder_7d493_3 (by decide) (by decide) (fun h => absurd h (by decide)) (fun _ => ?_)
  refine sv_wload_n (i := 0) dJ0_coder_7d493_6 rfl rfl ?_
  refine sv_gco hk rfl dJ0_coder_7d493_7 ?_
  refine sv_goto (tgt := 14) dJ0_coder_7d493_10 (by decide) ?_
  refine sv_nreturn dJ0_coder_7d493_14 rfl (by rfl) ?_
  exact ⟨rfl, rfl, rfl, rfl, rfl⟩
set_option maxRecDepth 100000 in
set_option maxHeartbeats 4000000 in
theorem c_J0_length_8abf5 {X : sv_X} {S : sv_S} {f : sv_F} {r : sv_R} {g : sv_G} {k : Nat} (hk : k < 5) : sv_C X 1 MJ0_length_8abf5 0 0 [sv_w (sv_aK X k)] S f r g (sv_qp (some (sv_i (sv_ln k))) S f r g) := by
  refine sv_met (by decide) (by simp [lg_sl, sv_cv, va_rf, Value.category]) ?_
  refine sv_wload_n (i := 0) dJ0_length_8abf5_0 rfl rfl ?_
  refine sv_gva hk rfl dJ0_length_8abf5_1 ?_
  refine sv_wlen hk dJ0_length_8abf5_4 ?_
  refine sv_wload_n (i := 0) dJ0_length_8abf5_5 rfl rfl ?_
  refine sv_wp0 (As := []) clJ0_335 dJ0_length_8abf5_6 rfl rfl (Nat.le_of_ble_eq_true rfl) (by decide) (by decide) hk (c_J0_coder_7d493 hk) ?_
  refine sv_ishr dJ0_length_8abf5_9 (z := (sv_ln k : Int)) (by rcases (show k = 0 ∨ k = 1 ∨ k = 2 ∨ k = 3 ∨ k = 4 by omega) with rfl | rfl | rfl | rfl | rfl <;> decide) ?_
  refine sv_ireturn dJ0_length_8abf5_10 rfl ?_
  exact ⟨rfl, rfl, rfl, rfl, rfl⟩
set_option maxRecDepth 100000 in
set_option maxHeartbeats 4000000 in
theorem c_J0_charAt_5068e {X : sv_X} {S : sv_S} {f : sv_F} {r : sv_R} {g : sv_G} {k : Nat} {i : Int} (hk : k < 5) (hi : 0 ≤ i ∧ i < (sv_ln k : Int)) : sv_C X 3 MJ0_charAt_5068e 0 0 [sv_w (sv_aK X k), sv_i i] S f r g (sv_qp (some (sv_i (sv_ch k i))) S f r g) := by
  refine sv_met (by decide) (by simp [lg_sl, sv_cv, va_rf, Value.category]) ?_
  have h4 := sv_ln_in k
  obtain ⟨c1, c2, c3, c4, c5, c6⟩ := sv_ch_b k hk i.toNat (by omega)
  rw [show ((i.toNat : Nat) : Int) = i by omega] at c1 c2 c3 c4 c5 c6
  refine sv_wload_n (i := 0) dJ0_charAt_5068e_0 rfl rfl ?_
  refine sv_wp0 (As := []) clJ0_492 dJ0_charAt_5068e_1 rfl rfl (Nat.le_of_ble_eq_true rfl) (by decide) (by decide) hk (c_J0_isLatin1_aae02 hk) ?_
  refine sv_if_eq (tgt := 16) dJ0_charAt_5068e_4 (by decide) (by decide) (fun h => absurd h (by decide)) (fun _ => ?_)
  refine sv_wload_n (i := 0) dJ0_charAt_5068e_7 rfl rfl ?_
  refine sv_gva hk rfl dJ0_charAt_5068e_8 ?_
  refine sv_iload_n (i := 1) dJ0_charAt_5068e_11 rfl rfl ?_
  refine sv_sp0 (As := [_, _]) clJ0_495 dJ0_charAt_5068e_12 rfl (Nat.le_of_ble_eq_true rfl) (by decide) (by decide) (c_J1_charAt_3b067 hk hi) ?_
  refine sv_nreturn dJ0_charAt_5068e_15 rfl c6 ?_
  exact ⟨rfl, rfl, rfl, rfl, rfl⟩
