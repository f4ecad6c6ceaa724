section SPECA
/-- whether a minus stands next: 1 or 0 -/
def sp_mi (t : Int → Int) (L p : Int) : Int := if sp_nx t L p = 45 then 1 else 0
def sp_af (t : Int → Int) (L p : Int) : Int := sp_nf t L (p + sp_mi t L p) 0 99
def sp_av (t : Int → Int) (L p : Int) : Int := if sp_mi t L p = 1 then - sp_nv t L (p + 1) else sp_nv t L p
def sp_al (t : Int → Int) (L p : Int) : Int := sp_mi t L p + sp_nl t L (p + sp_mi t L p)
theorem sp_nx_lt {t : Int → Int} {L p a : Int} (h : sp_nx t L p = a) (ha : a ≠ -1) : p < L := by
  unfold sp_nx at h; split at h
  · assumption
  · omega
end SPECA
set_option maxRecDepth 100000 in
set_option maxHeartbeats 4000000 in
theorem c_X5_amount {X : sv_X} {S : sv_S} {f : sv_F} {r : sv_R} {g : sv_G} {o : Nat} (hsh : sv_M5 S r o) (h11 : 0 ≤ f o 11 ∧ f o 11 ≤ f o 10) (h10 : f o 10 ≤ 80) : sv_C X 3 MX5_amount 0 0 [sv_r o] S f r g (sv_qi (fun a f' => (∃ q φ : Int, f o 11 ≤ q ∧ q ≤ f o 10 ∧ f' = sv_u (sv_u f o 11 q) o 12 φ ∧ (-99 ≤ a ∧ a ≤ 99) ∧ (f o 12 ≠ -1 → φ = f o 12) ∧ (f o 12 = -1 → φ = sp_af (f (o + 7)) (f o 10) (f o 11) ∧ (φ = -1 → a = sp_av (f (o + 7)) (f o 10) (f o 11) ∧ q = sp_sk (f (o + 7)) (f o 10) (f o 11 + sp_al (f (o + 7)) (f o 10) (f o 11)))))) S r g) := by
  refine sv_met (by decide) (by simp [lg_sl, sv_cv, va_rf, Value.category]) ?_
  refine sv_fr fun hin => ?_
  have f41 : ∀ mi : Int, ((mi = 1 ∧ f o 12 = -1 ∧ sp_nx (f (o + 7)) (f o 10) (f o 11) = 45) ∨ (mi = 0 ∧ (f o 12 ≠ -1 ∨ sp_nx (f (o + 7)) (f o 10) (f o 11) ≠ 45))) → sv_T X (sv_rm 3 0 0) MX5_amount (sv_Zm X 0 0 (sv_qi (fun a f' => (∃ q φ : Int, f o 11 ≤ q ∧ q ≤ f o 10 ∧ f' = sv_u (sv_u f o 11 q) o 12 φ ∧ (-99 ≤ a ∧ a ≤ 99) ∧ (f o 12 ≠ -1 → φ = f o 12) ∧ (f o 12 = -1 → φ = sp_af (f (o + 7)) (f o 10) (f o 11) ∧ (φ = -1 → a = sp_av (f (o + 7)) (f o 10) (f o 11) ∧ q = sp_sk (f (o + 7)) (f o 10) (f o 11 + sp_al (f (o + 7)) (f o 10) (f o 11)))))) S r g)) 0 0 41 [some (sv_r o), some (sv_i mi), none] [] S ((sv_u f o 11 (f o 11 + mi))) r g := by
    intro mi h
    refine sv_fr fun hin1 => ?_
    have hlt : f o 11 + mi ≤ f o 10 := by
      rcases h with ⟨e, -, e3⟩ | ⟨e, -⟩
      · have := sp_nx_lt e3 (by decide); omega
      · omega
    have hm01 : 0 ≤ mi ∧ mi ≤ 1 := by omega
    have e7 : (sv_u f o 11 (f o 11 + mi)) (o + 7) = f (o + 7) := by rw [sv_u_ne (by omega)]
    have e10 : (sv_u f o 11 (f o 11 + mi)) o 10 = f o 10 := by simp [sv_u]
    have e11 : (sv_u f o 11 (f o 11 + mi)) o 11 = f o 11 + mi := by simp [sv_u]
    have e12 : (sv_u f o 11 (f o 11 + mi)) o 12 = f o 12 := by simp [sv_u]
    refine sv_aload_n (i := 0) dX5_amount_41 rfl rfl ?_
    refine sv_iconst dX5_amount_42 ?_
    refine sv_bipush dX5_amount_43 (by decide) ?_
    refine sv_vi0 (As := [_, _]) clX5_107 dX5_amount_45 ⟨_, rfl, rfl⟩ (by decide) rfl (Nat.le_of_ble_eq_true rfl) (by decide) (by decide) hsh.lt hsh.k (c_X5_number (f := (sv_u f o 11 (f o 11 + mi))) hsh (by rw [e10, e11]; omega) (by rw [e10]; exact h10) 0 99 (by decide) (by decide)) (fun a f2 hf2 => ?_)
    rw [e7, e10, e11, e12] at hf2
    obtain ⟨q, φ, q1, q2, hf2, ha, p1, p2⟩ := hf2
    refine sv_istore_n (i := 2) dX5_amount_48 rfl (by decide) rfl ?_
    refine sv_iload_n (i := 1) dX5_amount_49 rfl rfl ?_
    refine sv_if_eq (tgt := 58) dX5_amount_50 (by decide) (by omega) (fun h_50 => ?_) (fun h_50 => ?_)
    · refine sv_iload_n (i := 2) dX5_amount_58 rfl rfl ?_
      refine sv_ireturn dX5_amount_59 rfl ?_
      refine ⟨_, rfl, rfl, rfl, rfl, q, φ, by omega, by omega, ?_, by omega, p1, fun e => ?_⟩
      · rw [hf2, sv_u_u]
      · have hmi : sp_mi (f (o + 7)) (f o 10) (f o 11) = mi := by unfold sp_mi; grind
        unfold sp_af sp_av sp_al
        rw [hmi]
        obtain ⟨z1, z2⟩ := p2 e
        refine ⟨z1, fun e2 => ?_⟩
        obtain ⟨z3, z4⟩ := z2 e2
        grind
    · refine sv_iload_n (i := 2) dX5_amount_53 rfl rfl ?_
      refine sv_ineg dX5_amount_54 ?_
      refine sv_goto (tgt := 59) dX5_amount_55 (by decide) ?_
      refine sv_ireturn dX5_amount_59 rfl ?_
      refine ⟨_, rfl, rfl, rfl, rfl, q, φ, by omega, by omega, ?_, by omega, p1, fun e => ?_⟩
      · rw [hf2, sv_u_u]
      · have hmi : sp_mi (f (o + 7)) (f o 10) (f o 11) = mi := by unfold sp_mi; grind
        unfold sp_af sp_av sp_al
        rw [hmi]
        obtain ⟨z1, z2⟩ := p2 e
        refine ⟨z1, fun e2 => ?_⟩
        obtain ⟨z3, z4⟩ := z2 e2
        grind
  have f22 : ∀ mi : Int, ((mi = 1 ∧ f o 12 = -1 ∧ sp_nx (f (o + 7)) (f o 10) (f o 11) = 45) ∨ (mi = 0 ∧ (f o 12 ≠ -1 ∨ sp_nx (f (o + 7)) (f o 10) (f o 11) ≠ 45))) → sv_T X (sv_rm 3 0 0) MX5_amount (sv_Zm X 0 0 (sv_qi (fun a f' => (∃ q φ : Int, f o 11 ≤ q ∧ q ≤ f o 10 ∧ f' = sv_u (sv_u f o 11 q) o 12 φ ∧ (-99 ≤ a ∧ a ≤ 99) ∧ (f o 12 ≠ -1 → φ = f o 12) ∧ (f o 12 = -1 → φ = sp_af (f (o + 7)) (f o 10) (f o 11) ∧ (φ = -1 → a = sp_av (f (o + 7)) (f o 10) (f o 11) ∧ q = sp_sk (f (o + 7)) (f o 10) (f o 11 + sp_al (f (o + 7)) (f o 10) (f o 11)))))) S r g)) 0 0 22 [some (sv_r o), none, none] [sv_i mi] S (f) r g := by
    intro mi h
    have hm01 : 0 ≤ mi ∧ mi ≤ 1 := by omega
    refine sv_istore_n (i := 1) dX5_amount_22 rfl (by decide) rfl ?_
    refine sv_aload_n (i := 0) dX5_amount_23 rfl rfl ?_
    refine sv_dup dX5_amount_24 rfl ?_
    refine sv_getI (kz := 11) flX5_88 dX5_amount_25 rfl rfl hsh.lt hsh.k ?_
    refine sv_iload_n (i := 1) dX5_amount_28 rfl rfl ?_
    refine sv_if_eq (tgt := 36) dX5_amount_29 (by decide) (by omega) (fun h_29 => ?_) (fun h_29 => ?_)
    · refine sv_iconst dX5_amount_36 ?_
      refine sv_iadd dX5_amount_37 ?_
      refine sv_putI (kz := 11) flX5_88 dX5_amount_38 (Or.inl rfl) rfl rfl hsh.lt hsh.k (by first | omega | exact hin _ _ | decide | (simp [sv_u, sv_row]; omega) | (simp [sv_u, sv_row]; exact hin _ _) | exact hin1 _ _ | (simp [sv_u, sv_row]; exact hin1 _ _)) ?_
      first
      | (have e : mi = 0 := by omega
         subst e; exact f41 0 h)
      | (have e : mi = 1 := by omega
         subst e; exact f41 1 h)
    · refine sv_iconst dX5_amount_32 ?_
      refine sv_goto (tgt := 37) dX5_amount_33 (by decide) ?_
      refine sv_iadd dX5_amount_37 ?_
      refine sv_putI (kz := 11) flX5_88 dX5_amount_38 (Or.inl rfl) rfl rfl hsh.lt hsh.k (by first | omega | exact hin _ _ | decide | (simp [sv_u, sv_row]; omega) | (simp [sv_u, sv_row]; exact hin _ _) | exact hin1 _ _ | (simp [sv_u, sv_row]; exact hin1 _ _)) ?_
      first
      | (have e : mi = 0 := by omega
         subst e; exact f41 0 h)
      | (have e : mi = 1 := by omega
         subst e; exact f41 1 h)
  refine sv_aload_n (i := 0) dX5_amount_0 rfl rfl ?_
  refine sv_getI (kz := 12) flX5_94 dX5_amount_1 rfl rfl hsh.lt hsh.k ?_
  refine sv_iconst dX5_amount_4 ?_
  refine sv_icmp_ne (tgt := 21) dX5_amount_5 (by decide) (by first | omega | exact hin _ _ | decide | (simp [sv_u, sv_row]; omega) | (simp [sv_u, sv_row]; exact hin _ _) | exact hin1 _ _ | (simp [sv_u, sv_row]; exact hin1 _ _)) (by first | omega | exact hin _ _ | decide | (simp [sv_u, sv_row]; omega) | (simp [sv_u, sv_row]; exact hin _ _) | exact hin1 _ _ | (simp [sv_u, sv_row]; exact hin1 _ _)) (fun h_5 => ?_) (fun h_5 => ?_)
  · refine sv_iconst dX5_amount_21 ?_
    first | exact f22 0 (Or.inr ⟨rfl, Or.inl (by assumption)⟩) | exact f22 0 (Or.inr ⟨rfl, Or.inr (by assumption)⟩) | exact f22 1 (Or.inl ⟨rfl, by assumption, by assumption⟩)
  · refine sv_aload_n (i := 0) dX5_amount_8 rfl rfl ?_
    refine sv_vp0 (As := []) clX5_91 dX5_amount_9 ⟨_, rfl, rfl⟩ (by decide) rfl (Nat.le_of_ble_eq_true rfl) (by decide) (by decide) hsh.lt hsh.k (c_X5_next hsh h11 h10) ?_
    have hnx : sv_in (sp_nx (f (o + 7)) (f o 10) (f o 11)) := by unfold sp_nx; split <;> first | exact hin _ _ | decide
    refine sv_bipush dX5_amount_12 (by decide) ?_
    refine sv_icmp_ne (tgt := 21) dX5_amount_14 (by decide) hnx (by first | omega | exact hin _ _ | decide | (simp [sv_u, sv_row]; omega) | (simp [sv_u, sv_row]; exact hin _ _) | exact hin1 _ _ | (simp [sv_u, sv_row]; exact hin1 _ _)) (fun h_14 => ?_) (fun h_14 => ?_)
    · refine sv_iconst dX5_amount_21 ?_
      first | exact f22 0 (Or.inr ⟨rfl, Or.inl (by assumption)⟩) | exact f22 0 (Or.inr ⟨rfl, Or.inr (by assumption)⟩) | exact f22 1 (Or.inl ⟨rfl, by assumption, by assumption⟩)
    · refine sv_iconst dX5_amount_17 ?_
      refine sv_goto (tgt := 22) dX5_amount_18 (by decide) ?_
      first | exact f22 0 (Or.inr ⟨rfl, Or.inl (by assumption)⟩) | exact f22 0 (Or.inr ⟨rfl, Or.inr (by assumption)⟩) | exact f22 1 (Or.inl ⟨rfl, by assumption, by assumption⟩)
section SPECW
/-- the letters of a number's word: the k-th of n -/
def sp_eqs (t cs : Int → Int) (p : Int) : Nat → Bool
  | 0 => true
  | k + 1 => sp_eqs t cs p k && decide (t (p + k) = cs k)
theorem sp_eqs_iff {t cs : Int → Int} {p : Int} : ∀ {k : Nat}, sp_eqs t cs p k = true ↔ ∀ j : Nat, j < k → t (p + j) = cs j := by
  intro k
  induction k with
  | zero => simp [sp_eqs]
  | succ k ih =>
    unfold sp_eqs
    rw [Bool.and_eq_true, ih, decide_eq_true_eq]
    constructor
    · intro h j hj
      by_cases e : j = k
      · subst e; exact h.2
      · exact h.1 j (by omega)
    · intro h
      exact ⟨fun j hj => h j (by omega), h k (by omega)⟩
def sp_l3 (a b c : Int) (k : Int) : Int := if k = 0 then a else if k = 1 then b else c
def sp_l4 (a b c d : Int) (k : Int) : Int := if k = 0 then a else if k = 1 then b else if k = 2 then c else d
/-- whether a word stands from p to q -/
def sp_isw (t cs : Int → Int) (p q : Int) (n : Nat) : Bool := decide (q - p = n) && sp_eqs t cs p n
/-- which command's word stands from p to q -/
def sp_wo (t : Int → Int) (p q : Int) : Int :=
  if sp_isw t (sp_l3 115 101 116) p q 3 then 0
  else if sp_isw t (sp_l3 97 100 100) p q 3 then 1
  else if sp_isw t (sp_l4 115 119 97 112) p q 4 then 2
  else if sp_isw t (sp_l4 102 105 108 108) p q 4 then 3
  else if sp_isw t (sp_l4 116 117 114 110) p q 4 then 4 else -1
def sp_lets (w N : Int) (n : Nat) (cs : Int → Int) : Prop := ∀ k : Nat, k < n → Int32.ofInt (Int32.ofInt w >>> (Int32.ofInt (8 * (N - 1 - (k : Int))) &&& 31)).toInt &&& Int32.ofInt 127 = Int32.ofInt (cs k) ∧ sv_in (cs k)
end SPECW
set_option maxRecDepth 100000 in
set_option maxHeartbeats 4000000 in
theorem c_X5_isWord {X : sv_X} {S : sv_S} {f : sv_F} {r : sv_R} {g : sv_G} {o : Nat} (hsh : sv_M5 S r o) (h11 : 0 ≤ f o 11 ∧ f o 11 ≤ f o 10) (h10 : f o 10 ≤ 80) (p w : Int) (hp : 0 ≤ p ∧ p ≤ f o 11) (N : Int) (n : Nat) (hN : N = n) (hn : n ≤ 4) (cs : Int → Int) (hcs : sp_lets w N n cs) : sv_C X 0 MX5_isWord 0 0 [sv_r o, sv_i p, sv_i w, sv_i N] S f r g (sv_qp (some (sv_i (if sp_isw (f (o + 7)) cs p (f o 11) n = true then 1 else 0))) S f r g) := by
  refine sv_met (by decide) (by simp [lg_sl, sv_cv, va_rf, Value.category]) ?_
  refine sv_fr fun hin => ?_
  have lp : ∀ (k : Nat) (j : Nat) (is : Int), n - (j : Int) < (k : Int) → (j ≤ n) → ((is = 1 ∧ f o 11 - p = n ∧ sp_eqs (f (o + 7)) cs p j = true) ∨ (is = 0 ∧ sp_isw (f (o + 7)) cs p (f o 11) n = false)) → sv_T X (sv_rm 0 0 0) MX5_isWord (sv_Zm X 0 0 (sv_qp (some (sv_i (if sp_isw (f (o + 7)) cs p (f o 11) n = true then 1 else 0))) S f r g)) 0 0 20 [some (sv_r o), some (sv_i p), some (sv_i w), some (sv_i N), some (sv_i is), some (sv_i (j : Nat))] [] S (f) r g := by
    intro k
    induction k with
    | zero =>
      intro j is hk h1 h2
      exact absurd hk (by omega)
    | succ k ih =>
      intro j is hk h1 h2
      refine sv_iload dX5_isWord_20 rfl ?_
      refine sv_iload_n (i := 3) dX5_isWord_22 rfl rfl ?_
      refine sv_icmp_ge (tgt := 70) dX5_isWord_23 (by decide) (by first | omega | exact hin _ _ | decide | (simp [sv_u, sv_row]; omega) | (simp [sv_u, sv_row]; exact hin _ _) | exact hin1 _ _ | (simp [sv_u, sv_row]; exact hin1 _ _)) (by first | omega | exact hin _ _ | decide | (simp [sv_u, sv_row]; omega) | (simp [sv_u, sv_row]; exact hin _ _) | exact hin1 _ _ | (simp [sv_u, sv_row]; exact hin1 _ _)) (fun h_23 => ?_) (fun h_23 => ?_)
      · refine sv_iload dX5_isWord_70 rfl ?_
        refine sv_zreturn dX5_isWord_72 rfl (by omega) ?_
        refine ⟨?_, rfl, rfl, rfl, rfl⟩
        congr 2
        rcases h2 with ⟨e1, e2, e3⟩ | ⟨e1, e2⟩
        · have : sp_isw (f (o + 7)) cs p (f o 11) n = true := by unfold sp_isw; rw [Bool.and_eq_true, decide_eq_true_eq]; exact ⟨e2, by first | (exfalso; omega) | (rw [show n = j by omega]; exact e3)⟩
          rw [if_pos this]; exact e1
        · rw [if_neg (by rw [e2]; decide)]; exact e1
      · refine sv_iload dX5_isWord_26 rfl ?_
        refine sv_if_eq (tgt := 70) dX5_isWord_28 (by decide) (by omega) (fun h_28 => ?_) (fun h_28 => ?_)
        · refine sv_iload dX5_isWord_70 rfl ?_
          refine sv_zreturn dX5_isWord_72 rfl (by omega) ?_
          refine ⟨?_, rfl, rfl, rfl, rfl⟩
          congr 2
          rcases h2 with ⟨e1, e2, e3⟩ | ⟨e1, e2⟩
          · have : sp_isw (f (o + 7)) cs p (f o 11) n = true := by unfold sp_isw; rw [Bool.and_eq_true, decide_eq_true_eq]; exact ⟨e2, by first | (exfalso; omega) | (rw [show n = j by omega]; exact e3)⟩
            rw [if_pos this]; exact e1
          · rw [if_neg (by rw [e2]; decide)]; exact e1
        · refine sv_aload_n (i := 0) dX5_isWord_31 rfl rfl ?_
          refine sv_getR (kz := 9) flX5_28 dX5_isWord_32 rfl rfl hsh.lt hsh.k hsh.r7 ?_
          refine sv_iload_n (i := 1) dX5_isWord_35 rfl rfl ?_
          refine sv_iload dX5_isWord_36 rfl ?_
          refine sv_iadd dX5_isWord_38 ?_
          refine sv_iald dX5_isWord_39 hsh.l7 hsh.s7 (by omega) ?_
          refine sv_iload_n (i := 2) dX5_isWord_40 rfl rfl ?_
          refine sv_bipush dX5_isWord_41 (by decide) ?_
          refine sv_iload_n (i := 3) dX5_isWord_43 rfl rfl ?_
          refine sv_iconst dX5_isWord_44 ?_
          refine sv_isub dX5_isWord_45 ?_
          refine sv_iload dX5_isWord_46 rfl ?_
          refine sv_isub dX5_isWord_48 ?_
          refine sv_imul dX5_isWord_49 ?_
          refine sv_ishr dX5_isWord_50 (Int32.ofInt_toInt _).symm ?_
          refine sv_bipush dX5_isWord_51 (by decide) ?_
          refine sv_iand dX5_isWord_53 (hcs j (by omega)).1 ?_
          refine sv_icmp_ne (tgt := 61) dX5_isWord_54 (by decide) (by first | omega | exact hin _ _ | decide | (simp [sv_u, sv_row]; omega) | (simp [sv_u, sv_row]; exact hin _ _) | exact hin1 _ _ | (simp [sv_u, sv_row]; exact hin1 _ _)) (hcs j (by omega)).2 (fun h_54 => ?_) (fun h_54 => ?_)
          · refine sv_iconst dX5_isWord_61 ?_
            refine sv_istore dX5_isWord_62 (by decide) rfl ?_
            refine sv_iinc dX5_isWord_64 rfl (by decide) rfl ?_
            refine sv_goto (tgt := 20) dX5_isWord_67 (by decide) ?_
            refine ih (j + 1) _ (by omega) (by omega) ?_
            first
            | exact Or.inl ⟨rfl, by omega, by
                unfold sp_eqs
                rw [Bool.and_eq_true, decide_eq_true_eq]
                rcases h2 with ⟨e1, e2, e3⟩ | ⟨e1, e2⟩
                · exact ⟨e3, h_54⟩
                · exfalso; omega⟩
            | exact Or.inr ⟨rfl, by
                cases hq : sp_isw (f (o + 7)) cs p (f o 11) n
                · rfl
                · exfalso
                  unfold sp_isw at hq
                  rw [Bool.and_eq_true, sp_eqs_iff] at hq
                  exact h_54 (hq.2 j (by omega))⟩
          · refine sv_iconst dX5_isWord_57 ?_
            refine sv_goto (tgt := 62) dX5_isWord_58 (by decide) ?_
            refine sv_istore dX5_isWord_62 (by decide) rfl ?_
            refine sv_iinc dX5_isWord_64 rfl (by decide) rfl ?_
            refine sv_goto (tgt := 20) dX5_isWord_67 (by decide) ?_
            refine ih (j + 1) _ (by omega) (by omega) ?_
            first
            | exact Or.inl ⟨rfl, by omega, by
                unfold sp_eqs
                rw [Bool.and_eq_true, decide_eq_true_eq]
                rcases h2 with ⟨e1, e2, e3⟩ | ⟨e1, e2⟩
                · exact ⟨e3, h_54⟩
                · exfalso; omega⟩
            | exact Or.inr ⟨rfl, by
                cases hq : sp_isw (f (o + 7)) cs p (f o 11) n
                · rfl
                · exfalso
                  unfold sp_isw at hq
                  rw [Bool.and_eq_true, sp_eqs_iff] at hq
                  exact h_54 (hq.2 j (by omega))⟩
  refine sv_aload_n (i := 0) dX5_isWord_0 rfl rfl ?_
  refine sv_getI (kz := 11) flX5_88 dX5_isWord_1 rfl rfl hsh.lt hsh.k ?_
  refine sv_iload_n (i := 1) dX5_isWord_4 rfl rfl ?_
  refine sv_isub dX5_isWord_5 ?_
  refine sv_iload_n (i := 3) dX5_isWord_6 rfl rfl ?_
  refine sv_icmp_ne (tgt := 14) dX5_isWord_7 (by decide) (by first | omega | exact hin _ _ | decide | (simp [sv_u, sv_row]; omega) | (simp [sv_u, sv_row]; exact hin _ _) | exact hin1 _ _ | (simp [sv_u, sv_row]; exact hin1 _ _)) (by first | omega | exact hin _ _ | decide | (simp [sv_u, sv_row]; omega) | (simp [sv_u, sv_row]; exact hin _ _) | exact hin1 _ _ | (simp [sv_u, sv_row]; exact hin1 _ _)) (fun h_7 => ?_) (fun h_7 => ?_)
  · refine sv_iconst dX5_isWord_14 ?_
    refine sv_istore dX5_isWord_15 (by decide) rfl ?_
    refine sv_iconst dX5_isWord_17 ?_
    refine sv_istore dX5_isWord_18 (by decide) rfl ?_
    first
    | exact lp (n + 1) 0 1 (by omega) (by omega) (Or.inl ⟨rfl, by omega, rfl⟩)
    | exact lp (n + 1) 0 0 (by omega) (by omega) (Or.inr ⟨rfl, by unfold sp_isw; rw [Bool.and_eq_false_iff]; exact Or.inl (decide_eq_false (by omega))⟩)
  · refine sv_iconst dX5_isWord_10 ?_
    refine sv_goto (tgt := 15) dX5_isWord_11 (by decide) ?_
    refine sv_istore dX5_isWord_15 (by decide) rfl ?_
    refine sv_iconst dX5_isWord_17 ?_
    refine sv_istore dX5_isWord_18 (by decide) rfl ?_
    first
    | exact lp (n + 1) 0 1 (by omega) (by omega) (Or.inl ⟨rfl, by omega, rfl⟩)
    | exact lp (n + 1) 0 0 (by omega) (by omega) (Or.inr ⟨rfl, by unfold sp_isw; rw [Bool.and_eq_false_iff]; exact Or.inl (decide_eq_false (by omega))⟩)
set_option maxRecDepth 100000 in
set_option maxHeartbeats 4000000 in
theorem c_X5_wordOf {X : sv_X} {S : sv_S} {f : sv_F} {r : sv_R} {g : sv_G} {o : Nat} (hsh : sv_M5 S r o) (h11 : 0 ≤ f o 11 ∧ f o 11 ≤ f o 10) (h10 : f o 10 ≤ 80) (p : Int) (hp : 0 ≤ p ∧ p ≤ f o 11) : sv_C X 1 MX5_wordOf 0 0 [sv_r o, sv_i p] S f r g (sv_qp (some (sv_i (sp_wo (f (o + 7)) p (f o 11)))) S f r g) := by
  refine sv_met (by decide) (by simp [lg_sl, sv_cv, va_rf, Value.category]) ?_
  refine sv_fr fun hin => ?_
  refine sv_aload_n (i := 0) dX5_wordOf_0 rfl rfl ?_
  refine sv_iload_n (i := 1) dX5_wordOf_1 rfl rfl ?_
  refine sv_ldc (n := 7562612) dX5_wordOf_2 (List.mem_of_getElem? (i := 728) (by decide +kernel)) ?_
  refine sv_iconst dX5_wordOf_4 ?_
  refine sv_vp0 (As := [_, _, _]) clX5_111 dX5_wordOf_5 ⟨_, rfl, rfl⟩ (by decide) rfl (Nat.le_of_ble_eq_true rfl) (by decide) (by decide) hsh.lt hsh.k (c_X5_isWord hsh h11 h10 p _ hp 3 3 rfl (by decide) (sp_l3 115 101 116) (by unfold sp_lets; decide)) ?_
  refine sv_bif_eq (tgt := 13) dX5_wordOf_8 (by decide) (fun h_8 => ?_) (fun h_8 => ?_)
  · refine sv_aload_n (i := 0) dX5_wordOf_13 rfl rfl ?_
    refine sv_iload_n (i := 1) dX5_wordOf_14 rfl rfl ?_
    refine sv_ldc (n := 6382692) dX5_wordOf_15 (List.mem_of_getElem? (i := 733) (by decide +kernel)) ?_
    refine sv_iconst dX5_wordOf_17 ?_
    refine sv_vp0 (As := [_, _, _]) clX5_111 dX5_wordOf_18 ⟨_, rfl, rfl⟩ (by decide) rfl (Nat.le_of_ble_eq_true rfl) (by decide) (by decide) hsh.lt hsh.k (c_X5_isWord hsh h11 h10 p _ hp 3 3 rfl (by decide) (sp_l3 97 100 100) (by unfold sp_lets; decide)) ?_
    refine sv_bif_eq (tgt := 26) dX5_wordOf_21 (by decide) (fun h_21 => ?_) (fun h_21 => ?_)
    · refine sv_aload_n (i := 0) dX5_wordOf_26 rfl rfl ?_
      refine sv_iload_n (i := 1) dX5_wordOf_27 rfl rfl ?_
      refine sv_ldc (n := 1937203568) dX5_wordOf_28 (List.mem_of_getElem? (i := 734) (by decide +kernel)) ?_
      refine sv_iconst dX5_wordOf_30 ?_
      refine sv_vp0 (As := [_, _, _]) clX5_111 dX5_wordOf_31 ⟨_, rfl, rfl⟩ (by decide) rfl (Nat.le_of_ble_eq_true rfl) (by decide) (by decide) hsh.lt hsh.k (c_X5_isWord hsh h11 h10 p _ hp 4 4 rfl (by decide) (sp_l4 115 119 97 112) (by unfold sp_lets; decide)) ?_
      refine sv_bif_eq (tgt := 39) dX5_wordOf_34 (by decide) (fun h_34 => ?_) (fun h_34 => ?_)
      · refine sv_aload_n (i := 0) dX5_wordOf_39 rfl rfl ?_
        refine sv_iload_n (i := 1) dX5_wordOf_40 rfl rfl ?_
        refine sv_ldc (n := 1718185068) dX5_wordOf_41 (List.mem_of_getElem? (i := 735) (by decide +kernel)) ?_
        refine sv_iconst dX5_wordOf_43 ?_
        refine sv_vp0 (As := [_, _, _]) clX5_111 dX5_wordOf_44 ⟨_, rfl, rfl⟩ (by decide) rfl (Nat.le_of_ble_eq_true rfl) (by decide) (by decide) hsh.lt hsh.k (c_X5_isWord hsh h11 h10 p _ hp 4 4 rfl (by decide) (sp_l4 102 105 108 108) (by unfold sp_lets; decide)) ?_
        refine sv_bif_eq (tgt := 52) dX5_wordOf_47 (by decide) (fun h_47 => ?_) (fun h_47 => ?_)
        · refine sv_aload_n (i := 0) dX5_wordOf_52 rfl rfl ?_
          refine sv_iload_n (i := 1) dX5_wordOf_53 rfl rfl ?_
          refine sv_ldc (n := 1953854062) dX5_wordOf_54 (List.mem_of_getElem? (i := 736) (by decide +kernel)) ?_
          refine sv_iconst dX5_wordOf_56 ?_
          refine sv_vp0 (As := [_, _, _]) clX5_111 dX5_wordOf_57 ⟨_, rfl, rfl⟩ (by decide) rfl (Nat.le_of_ble_eq_true rfl) (by decide) (by decide) hsh.lt hsh.k (c_X5_isWord hsh h11 h10 p _ hp 4 4 rfl (by decide) (sp_l4 116 117 114 110) (by unfold sp_lets; decide)) ?_
          refine sv_bif_eq (tgt := 67) dX5_wordOf_60 (by decide) (fun h_60 => ?_) (fun h_60 => ?_)
          · refine sv_iconst dX5_wordOf_67 ?_
            refine sv_ireturn dX5_wordOf_68 rfl ?_
            exact ⟨by unfold sp_wo; simp only [*]; rfl, rfl, rfl, rfl, rfl⟩
          · refine sv_iconst dX5_wordOf_63 ?_
            refine sv_goto (tgt := 68) dX5_wordOf_64 (by decide) ?_
            refine sv_ireturn dX5_wordOf_68 rfl ?_
            exact ⟨by unfold sp_wo; simp only [*]; rfl, rfl, rfl, rfl, rfl⟩
        · refine sv_iconst dX5_wordOf_50 ?_
          refine sv_ireturn dX5_wordOf_51 rfl ?_
          exact ⟨by unfold sp_wo; simp only [*]; rfl, rfl, rfl, rfl, rfl⟩
      · refine sv_iconst dX5_wordOf_37 ?_
        refine sv_ireturn dX5_wordOf_38 rfl ?_
        exact ⟨by unfold sp_wo; simp only [*]; rfl, rfl, rfl, rfl, rfl⟩
    · refine sv_iconst dX5_wordOf_24 ?_
      refine sv_ireturn dX5_wordOf_25 rfl ?_
      exact ⟨by unfold sp_wo; simp only [*]; rfl, rfl, rfl, rfl, rfl⟩
  · refine sv_iconst dX5_wordOf_11 ?_
    refine sv_ireturn dX5_wordOf_12 rfl ?_
    exact ⟨by unfold sp_wo; simp only [*]; rfl, rfl, rfl, rfl, rfl⟩
