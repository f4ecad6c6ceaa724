/-! bits of ints that are not negative -/
def lw_2 (p : Int) : Int := ((2 ^ p.toNat : Nat) : Int)
/-- 128 to the t, for t below 4 -/
def lw_p (t : Int) : Int := if t = 0 then 1 else if t = 1 then 128 else if t = 2 then 16384 else 2097152
def lw_b (w p : Int) : Int := if w.toNat.testBit p.toNat = true then 1 else 0
theorem bz_of (n : Nat) : (Int32.ofInt (n : Int)).toBitVec = BitVec.ofNat 32 n := by
  show BitVec.ofInt 32 (n : Int) = _
  first | exact BitVec.ofInt_natCast _ _ | simp
theorem bz_inj {a b : Int32} (h : a.toBitVec.toNat = b.toBitVec.toNat) : a = b := Int32.toBitVec_inj.mp (BitVec.eq_of_toNat_eq h)
theorem bz_tn {n : Nat} (h : n < 4294967296) : (Int32.ofInt (n : Int)).toBitVec.toNat = n := by
  rw [bz_of, BitVec.toNat_ofNat]; exact Nat.mod_eq_of_lt h
theorem bz_nat {w : Int} (h : 0 ≤ w) : ∃ n : Nat, w = (n : Int) := ⟨w.toNat, by omega⟩
theorem bz_and127 {w : Int} (h0 : 0 ≤ w) (h1 : w ≤ 2147483647) : Int32.ofInt w &&& Int32.ofInt 127 = Int32.ofInt (w % 128) := by
  obtain ⟨n, rfl⟩ := bz_nat h0
  rw [show ((n : Int) % 128) = ((n % 128 : Nat) : Int) by omega]
  refine bz_inj ?_
  rw [Int32.toBitVec_and, BitVec.toNat_and, bz_tn (by omega), bz_tn (by omega)]
  show n &&& (2 ^ 7 - 1) = _
  rw [Nat.and_two_pow_sub_one_eq_mod]
theorem bz_and1 {w : Int} (h0 : 0 ≤ w) (h1 : w ≤ 2147483647) : Int32.ofInt w &&& Int32.ofInt 1 = Int32.ofInt (w % 2) := by
  obtain ⟨n, rfl⟩ := bz_nat h0
  rw [show ((n : Int) % 2) = ((n % 2 : Nat) : Int) by omega]
  refine bz_inj ?_
  rw [Int32.toBitVec_and, BitVec.toNat_and, bz_tn (by omega), bz_tn (by omega)]
  show n &&& (2 ^ 1 - 1) = _
  rw [Nat.and_two_pow_sub_one_eq_mod]
theorem bz_s : ∀ k, k < 32 → ((Int32.ofInt (k : Nat) &&& 31).toBitVec.smod 32).toNat = k := by decide +kernel
theorem bz_shr {w : Int} {k : Nat} (h0 : 0 ≤ w) (h1 : w ≤ 2147483647) (hk : k < 32) : Int32.ofInt w >>> (Int32.ofInt (k : Int) &&& 31) = Int32.ofInt (w / ((2 ^ k : Nat) : Int)) := by
  obtain ⟨n, rfl⟩ := bz_nat h0
  rw [show (n : Int) / ((2 ^ k : Nat) : Int) = ((n / 2 ^ k : Nat) : Int) from (Int.natCast_ediv n (2 ^ k)).symm]
  have hd : n / 2 ^ k ≤ n := Nat.div_le_self _ _
  refine bz_inj ?_
  rw [Int32.toBitVec_shiftRight]
  show ((Int32.ofInt (n : Int)).toBitVec.sshiftRight ((Int32.ofInt (k : Nat) &&& 31).toBitVec.smod 32).toNat).toNat = _
  rw [bz_s k hk, BitVec.sshiftRight_eq_of_msb_false, BitVec.toNat_ushiftRight, bz_tn (by omega), bz_tn (by omega), Nat.shiftRight_eq_div_pow]
  rw [BitVec.msb_eq_decide, bz_tn (by omega)]
  exact decide_eq_false (by show ¬ 2147483648 ≤ n; omega)
theorem bz_shl {v : Int} {k : Nat} (h0 : 0 ≤ v) (h1 : v * ((2 ^ k : Nat) : Int) ≤ 2147483647) (hv : v ≤ 2147483647) (hk : k < 32) : Int32.ofInt v <<< (Int32.ofInt (k : Int) &&& 31) = Int32.ofInt (v * ((2 ^ k : Nat) : Int)) := by
  obtain ⟨n, rfl⟩ := bz_nat h0
  rw [show (n : Int) * ((2 ^ k : Nat) : Int) = ((n * 2 ^ k : Nat) : Int) from (Int.natCast_mul n (2 ^ k)).symm] at h1 ⊢
  refine bz_inj ?_
  rw [Int32.toBitVec_shiftLeft]
  show ((Int32.ofInt (n : Int)).toBitVec <<< ((Int32.ofInt (k : Nat) &&& 31).toBitVec.smod 32).toNat).toNat = _
  rw [bz_s k hk, BitVec.toNat_shiftLeft, bz_tn (by omega), Nat.shiftLeft_eq, bz_tn (by omega)]
  exact Nat.mod_eq_of_lt (by show n * 2 ^ k < 4294967296; omega)
theorem bz_or {w v : Int} {k : Nat} (h0 : 0 ≤ w) (hw : w < ((2 ^ k : Nat) : Int)) (hv : 0 ≤ v) (h1 : w + v * ((2 ^ k : Nat) : Int) ≤ 2147483647) : Int32.ofInt w ||| Int32.ofInt (v * ((2 ^ k : Nat) : Int)) = Int32.ofInt (w + v * ((2 ^ k : Nat) : Int)) := by
  obtain ⟨n, rfl⟩ := bz_nat h0
  obtain ⟨a, rfl⟩ := bz_nat hv
  rw [show (a : Int) * ((2 ^ k : Nat) : Int) = ((a * 2 ^ k : Nat) : Int) from (Int.natCast_mul a (2 ^ k)).symm] at h1 ⊢
  rw [show (n : Int) + ((a * 2 ^ k : Nat) : Int) = ((n + a * 2 ^ k : Nat) : Int) from (Int.natCast_add _ _).symm] at h1 ⊢
  have hn : n < 2 ^ k := by omega
  refine bz_inj ?_
  rw [Int32.toBitVec_or, BitVec.toNat_or, bz_tn (by omega), bz_tn (by omega), bz_tn (by omega), Nat.or_comm, ← Nat.shiftLeft_eq, ← Nat.shiftLeft_add_eq_or_of_lt hn, Nat.add_comm]
theorem bz_keep {w : Int} {c : Int32} {k : Nat} (h0 : 0 ≤ w) (h1 : w < ((2 ^ k : Nat) : Int)) (hc : ∀ i, i < k → c.toBitVec.getLsbD i = true) : Int32.ofInt w &&& c = Int32.ofInt w := by
  obtain ⟨n, rfl⟩ := bz_nat h0
  have hn : n < 2 ^ k := by omega
  refine Int32.toBitVec_inj.mp (BitVec.eq_of_getLsbD_eq fun i hi => ?_)
  rw [Int32.toBitVec_and, BitVec.getLsbD_and, bz_of, BitVec.getLsbD_ofNat]
  by_cases h : i < k
  · rw [hc i h, Bool.and_true]
  · have : n.testBit i = false := Nat.testBit_lt_two_pow (Nat.lt_of_lt_of_le hn (Nat.pow_le_pow_right (by omega) (by omega)))
    rw [this]; simp
theorem lw_t4 {t : Int} (h : 0 ≤ t ∧ t < 4) : t = 0 ∨ t = 1 ∨ t = 2 ∨ t = 3 := by omega
theorem bz_m127 {t : Int} (h : 0 ≤ t ∧ t < 4) : Int32.ofInt 127 <<< (Int32.ofInt (7 * t) &&& 31) = Int32.ofInt (127 * lw_p t) := by
  rcases lw_t4 h with rfl | rfl | rfl | rfl <;> decide +kernel
theorem bz_mnot {t : Int} (h : 0 ≤ t ∧ t < 4) : Int32.ofInt (127 * lw_p t) ^^^ Int32.ofInt (-1) = Int32.ofInt (-(127 * lw_p t) - 1) := by
  rcases lw_t4 h with rfl | rfl | rfl | rfl <;> decide +kernel
theorem bz_clr {w t : Int} (h : 0 ≤ t ∧ t < 4) (h0 : 0 ≤ w) (h1 : w < lw_p t) : Int32.ofInt w &&& Int32.ofInt (-(127 * lw_p t) - 1) = Int32.ofInt w := by
  rcases lw_t4 h with rfl | rfl | rfl | rfl
  · exact bz_keep (k := 0) h0 (by have : lw_p 0 = 1 := rfl; show w < 1; omega) (by decide +kernel)
  · exact bz_keep (k := 7) h0 (by have : lw_p 1 = 128 := rfl; show w < 128; omega) (by decide +kernel)
  · exact bz_keep (k := 14) h0 (by have : lw_p 2 = 16384 := rfl; show w < 16384; omega) (by decide +kernel)
  · exact bz_keep (k := 21) h0 (by have : lw_p 3 = 2097152 := rfl; show w < 2097152; omega) (by decide +kernel)
theorem bz_vshl {v t : Int} (h : 0 ≤ t ∧ t < 4) (h0 : 0 ≤ v) (h1 : v ≤ 127) : Int32.ofInt v <<< (Int32.ofInt (7 * t) &&& 31) = Int32.ofInt (v * lw_p t) := by
  rcases lw_t4 h with rfl | rfl | rfl | rfl
  · exact bz_shl (k := 0) h0 (by show v * 1 ≤ _; omega) (by omega) (by decide)
  · exact bz_shl (k := 7) h0 (by show v * 128 ≤ _; omega) (by omega) (by decide)
  · exact bz_shl (k := 14) h0 (by show v * 16384 ≤ _; omega) (by omega) (by decide)
  · exact bz_shl (k := 21) h0 (by show v * 2097152 ≤ _; omega) (by omega) (by decide)
theorem bz_vor {w v t : Int} (h : 0 ≤ t ∧ t < 4) (hw : 0 ≤ w) (hw1 : w < lw_p t) (h0 : 0 ≤ v) (h1 : v ≤ 127) : Int32.ofInt w ||| Int32.ofInt (v * lw_p t) = Int32.ofInt (w + v * lw_p t) := by
  rcases lw_t4 h with rfl | rfl | rfl | rfl
  · exact bz_or (k := 0) hw (by have : lw_p 0 = 1 := rfl; show w < 1; omega) h0 (by have : lw_p 0 = 1 := rfl; show w + v * 1 ≤ _; omega)
  · exact bz_or (k := 7) hw (by have : lw_p 1 = 128 := rfl; show w < 128; omega) h0 (by have : lw_p 1 = 128 := rfl; show w + v * 128 ≤ _; omega)
  · exact bz_or (k := 14) hw (by have : lw_p 2 = 16384 := rfl; show w < 16384; omega) h0 (by have : lw_p 2 = 16384 := rfl; show w + v * 16384 ≤ _; omega)
  · exact bz_or (k := 21) hw (by have : lw_p 3 = 2097152 := rfl; show w < 2097152; omega) h0 (by have : lw_p 3 = 2097152 := rfl; show w + v * 2097152 ≤ _; omega)
theorem bz_vshr {w t : Int} (h : 0 ≤ t ∧ t < 4) (h0 : 0 ≤ w) (h1 : w ≤ 2147483647) : Int32.ofInt w >>> (Int32.ofInt (7 * t) &&& 31) = Int32.ofInt (w / lw_p t) := by
  rcases lw_t4 h with rfl | rfl | rfl | rfl
  · exact bz_shr (k := 0) h0 h1 (by decide)
  · exact bz_shr (k := 7) h0 h1 (by decide)
  · exact bz_shr (k := 14) h0 h1 (by decide)
  · exact bz_shr (k := 21) h0 h1 (by decide)
theorem lw_p_pos (t : Int) : 1 ≤ lw_p t ∧ lw_p t ≤ 2097152 := by unfold lw_p; split <;> (try split) <;> (try split) <;> omega
/-! single bits -/
theorem lw_2_pos (p : Int) : 1 ≤ lw_2 p := by
  unfold lw_2
  have := Nat.one_le_two_pow (n := p.toNat)
  omega
theorem lw_2_s {p : Int} (h : 0 ≤ p) : lw_2 (p + 1) = 2 * lw_2 p := by
  unfold lw_2
  rw [show (p + 1).toNat = p.toNat + 1 by omega, Nat.pow_succ]
  omega
theorem lw_2_12 {p : Int} (h : 0 ≤ p) (h1 : p ≤ 12) : lw_2 p ≤ 4096 := by
  unfold lw_2
  have : 2 ^ p.toNat ≤ 2 ^ 12 := Nat.pow_le_pow_right (by omega) (by omega)
  omega
theorem lw_b01 (w p : Int) : lw_b w p = 0 ∨ lw_b w p = 1 := by unfold lw_b; split <;> simp
theorem bz_bshr {w p : Int} (h0 : 0 ≤ w) (h1 : w ≤ 2147483647) (hp : 0 ≤ p) (hp1 : p < 32) : Int32.ofInt w >>> (Int32.ofInt p &&& 31) = Int32.ofInt (w / lw_2 p) := by
  have := bz_shr (k := p.toNat) h0 h1 (by omega)
  rw [show ((p.toNat : Nat) : Int) = p by omega] at this
  exact this
theorem bz_1shl {p : Int} (hp : 0 ≤ p) (hp1 : p < 31) : Int32.ofInt 1 <<< (Int32.ofInt p &&& 31) = Int32.ofInt (lw_2 p) := by
  have h2 : 2 ^ p.toNat ≤ 2 ^ 30 := Nat.pow_le_pow_right (by omega) (by omega)
  have := bz_shl (v := 1) (k := p.toNat) (by omega) (by omega) (by omega) (by omega)
  rw [show ((p.toNat : Nat) : Int) = p by omega, Int.one_mul] at this
  exact this
theorem bz_bor {w p : Int} (h0 : 0 ≤ w) (hw : w < lw_2 p) (hp : 0 ≤ p) (hp1 : p < 30) : Int32.ofInt w ||| Int32.ofInt (lw_2 p) = Int32.ofInt (w + lw_2 p) := by
  have h2 : 2 ^ p.toNat ≤ 2 ^ 29 := Nat.pow_le_pow_right (by omega) (by omega)
  unfold lw_2 at hw ⊢
  have := bz_or (w := w) (v := 1) (k := p.toNat) h0 hw (by omega) (by omega)
  rw [Int.one_mul] at this
  exact this
theorem lw_bit {w p : Int} (h0 : 0 ≤ w) : w / lw_2 p % 2 = lw_b w p := by
  obtain ⟨n, rfl⟩ := bz_nat h0
  unfold lw_b lw_2
  rw [show (n : Int) / ((2 ^ p.toNat : Nat) : Int) = ((n / 2 ^ p.toNat : Nat) : Int) from (Int.natCast_ediv n (2 ^ p.toNat)).symm, Int.toNat_natCast, Nat.testBit_eq_decide_div_mod_eq]
  by_cases h : n / 2 ^ p.toNat % 2 = 1
  · rw [decide_eq_true h, if_pos rfl]; omega
  · rw [decide_eq_false h, if_neg (by decide)]; omega
theorem lw_b_hi {w p : Int} (h0 : 0 ≤ w) (h : w < lw_2 p) : lw_b w p = 0 := by
  unfold lw_b lw_2 at *
  rw [Nat.testBit_lt_two_pow (by omega), if_neg (by decide)]
theorem lw_b_hi' {w p q : Int} (h0 : 0 ≤ w) (h : w < lw_2 q) (hq : 0 ≤ q) (hpq : q ≤ p) : lw_b w p = 0 := by
  refine lw_b_hi h0 ?_
  have : 2 ^ q.toNat ≤ 2 ^ p.toNat := Nat.pow_le_pow_right (by omega) (by omega)
  unfold lw_2 at *
  omega
theorem lw_b_add {w p j : Int} (h0 : 0 ≤ w) (h : w < lw_2 p) (hp : 0 ≤ p) (hj : 0 ≤ j) (hjp : j < p) : lw_b (w + lw_2 p) j = lw_b w j := by
  obtain ⟨n, rfl⟩ := bz_nat h0
  have hp2 := lw_2_pos p
  unfold lw_2 at h hp2
  unfold lw_b lw_2
  rw [show ((n : Int) + ((2 ^ p.toNat : Nat) : Int)).toNat = 2 ^ p.toNat + n by omega, Nat.testBit_two_pow_add_gt (show j.toNat < p.toNat by omega), Int.toNat_natCast]
theorem lw_b_new {w p : Int} (h0 : 0 ≤ w) (h : w < lw_2 p) (hp : 0 ≤ p) : lw_b (w + lw_2 p) p = 1 := by
  obtain ⟨n, rfl⟩ := bz_nat h0
  unfold lw_b lw_2 at *
  rw [show ((n : Int) + ((2 ^ p.toNat : Nat) : Int)).toNat = 2 ^ p.toNat + n by omega, Nat.testBit_two_pow_add_eq, Nat.testBit_lt_two_pow (by omega)]
  rfl
