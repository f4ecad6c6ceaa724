section SPECA
/-- whether a minus stands next: 1 or 0 -/
def sp_mi (t : Int → Int) (L p : Int) : Int := if sp_nx t L p = 45 then 1 else 0
def sp_af (t : Int → Int) (L p : Int) : Int := sp_nf t L (p + sp_mi t L p) 0 99
def sp_av (t : Int → Int) (L p : Int) : Int := if sp_mi t L p = 1 then - sp_nv t L (p + 1) else sp_nv t L p
def sp_al (t : Int → Int) (L p : Int) : Int := sp_mi t L p + sp_nl t L (p + sp_mi t L p)
theorem sp_nx_lt {t : Int → Int} {L p a : Int} (h : sp_nx t L p = a) (ha : a ≠ -1) : p < L := by
  unfold sp_nx at h; split at h
  · assumption
  · omega
end SPECA
section SPECW
/-- the letters of a number's word: the k-th of n -/
def sp_eqs (t cs : Int → Int) (p : Int) : Nat → Bool
  | 0 => true
  | k + 1 => sp_eqs t cs p k && decide (t (p + k) = cs k)
theorem sp_eqs_iff {t cs : Int → Int} {p : Int} : ∀ {k : Nat}, sp_eqs t cs p k = true ↔ ∀ j : Nat, j < k → t (p + j) = cs j := by
  intro k
  induction k with
  | zero => simp [sp_eqs]
  | succ k ih =>
    unfold sp_eqs
    rw [Bool.and_eq_true, ih, decide_eq_true_eq]
    constructor
    · intro h j hj
      by_cases e : j = k
      · subst e; exact h.2
      · exact h.1 j (by omega)
    · intro h
      exact ⟨fun j hj => h j (by omega), h k (by omega)⟩
def sp_l3 (a b c : Int) (k : Int) : Int := if k = 0 then a else if k = 1 then b else c
def sp_l4 (a b c d : Int) (k : Int) : Int := if k = 0 then a else if k = 1 then b else if k = 2 then c else d
/-- whether a word stands from p to q -/
def sp_isw (t cs : Int → Int) (p q : Int) (n : Nat) : Bool := decide (q - p = n) && sp_eqs t cs p n
/-- which command's word stands from p to q -/
def sp_wo (t : Int → Int) (p q : Int) : Int :=
  if sp_isw t (sp_l3 115 101 116) p q 3 then 0
  else if sp_isw t (sp_l3 97 100 100) p q 3 then 1
  else if sp_isw t (sp_l4 115 119 97 112) p q 4 then 2
  else if sp_isw t (sp_l4 102 105 108 108) p q 4 then 3
  else if sp_isw t (sp_l4 116 117 114 110) p q 4 then 4 else -1
def sp_lets (w N : Int) (n : Nat) (cs : Int → Int) : Prop := ∀ k : Nat, k < n → Int32.ofInt (Int32.ofInt w >>> (Int32.ofInt (8 * (N - 1 - (k : Int))) &&& 31)).toInt &&& Int32.ofInt 127 = Int32.ofInt (cs k) ∧ sv_in (cs k)
end SPECW
section SPECC
def sp_cp1 (t : Int → Int) (L p : Int) : Int := sp_sk t L (sp_lt t L p)
def sp_cw (t : Int → Int) (L p : Int) : Int := sp_wo t p (sp_lt t L p)
def sp_ca (t : Int → Int) (L p : Int) : Int := sp_nv t L (sp_cp1 t L p)
def sp_cf1 (t : Int → Int) (L hi p : Int) : Int := sp_nf t L (sp_cp1 t L p) 0 hi
def sp_cp2 (t : Int → Int) (L p : Int) : Int := sp_sk t L (sp_cp1 t L p + sp_nl t L (sp_cp1 t L p))
def sp_cf2 (t : Int → Int) (L hi p : Int) : Int := if sp_cw t L p = 0 then sp_nf t L (sp_cp2 t L p) 0 99 else if sp_cw t L p = 1 then sp_af t L (sp_cp2 t L p) else sp_nf t L (sp_cp2 t L p) (if sp_cw t L p = 2 then 0 else sp_ca t L p) hi
def sp_cb (t : Int → Int) (L p : Int) : Int := if sp_cw t L p = 1 then sp_av t L (sp_cp2 t L p) else sp_nv t L (sp_cp2 t L p)
def sp_cp3 (t : Int → Int) (L p : Int) : Int := sp_sk t L (sp_cp2 t L p + if sp_cw t L p = 1 then sp_al t L (sp_cp2 t L p) else sp_nl t L (sp_cp2 t L p))
def sp_cf3 (t : Int → Int) (L p : Int) : Int := if sp_cw t L p = 3 then sp_nf t L (sp_cp3 t L p) 0 99 else -1
def sp_cc (t : Int → Int) (L p : Int) : Int := if sp_cw t L p = 3 then sp_nv t L (sp_cp3 t L p) else 0
def sp_cp4 (t : Int → Int) (L p : Int) : Int := if sp_cw t L p = 3 then sp_sk t L (sp_cp3 t L p + sp_nl t L (sp_cp3 t L p)) else sp_cp3 t L p
/-- the fault of the command that begins at p, -1 if it has none -/
def sp_cf (t : Int → Int) (L hi p : Int) : Int := if sp_cw t L p = -1 then p else if sp_cf1 t L hi p ≠ -1 then sp_cf1 t L hi p else if sp_cf2 t L hi p ≠ -1 then sp_cf2 t L hi p else if sp_cf3 t L p ≠ -1 then sp_cf3 t L p else if sp_nx t L (sp_cp4 t L p) = 59 then -1 else sp_cp4 t L p
/-- where the next command begins -/
def sp_cn (t : Int → Int) (L p : Int) : Int := sp_sk t L (sp_cp4 t L p + 1)
/-- the memory while a command is read -/
def sp_rc (o : Nat) (f : sv_F) (w : Int → Int) (q φ : Int) : sv_F := sv_u (sv_u (sv_row f (o + 8) w) o 11 q) o 12 φ
variable {o : Nat} {f : sv_F} {w : Int → Int} {q φ : Int}
theorem sp_rc_ne {x : Nat} (h : x ≠ o) (h8 : x ≠ o + 8) : sp_rc o f w q φ x = f x := by unfold sp_rc; rw [sv_u_ne h, sv_u_ne h, sv_row_ne h8]
theorem sp_rc_8 : sp_rc o f w q φ (o + 8) = w := by unfold sp_rc; rw [sv_u_ne (by omega), sv_u_ne (by omega)]; funext y; simp [sv_row]
theorem sp_rc_11 : sp_rc o f w q φ o 11 = q := by unfold sp_rc; simp [sv_u]
theorem sp_rc_12 : sp_rc o f w q φ o 12 = φ := by unfold sp_rc; simp [sv_u]
theorem sp_rc_o {j : Int} (h : j ≠ 11) (h2 : j ≠ 12) : sp_rc o f w q φ o j = f o j := by unfold sp_rc; simp [sv_u, sv_row, h, h2]
theorem sp_rc_u11 {a : Int} : sv_u (sp_rc o f w q φ) o 11 a = sp_rc o f w a φ := by unfold sp_rc; funext x y; simp [sv_u]; grind
theorem sp_rc_u12 {a : Int} : sv_u (sp_rc o f w q φ) o 12 a = sp_rc o f w q a := by unfold sp_rc; funext x y; simp [sv_u]; grind
theorem sp_rc_u8 {j a : Int} : sv_u (sp_rc o f w q φ) (o + 8) j a = sp_rc o f (sp_up w j a) q φ := by unfold sp_rc; funext x y; simp [sv_u, sv_row, sp_up]; grind
theorem sp_rc_id : sp_rc o f (f (o + 8)) (f o 11) (f o 12) = f := by unfold sp_rc; funext x y; simp [sv_u, sv_row]; grind
end SPECC

section SPECRS
def sp_rs (o : Nat) (f : sv_F) (w : Int → Int) (q φ c : Int) : sv_F := sv_u (sp_rc o f w q φ) o 14 c
variable {o : Nat} {f : sv_F} {w w' : Int → Int} {q q' φ φ' c c' : Int}
theorem sp_rs_ne {x : Nat} (h : x ≠ o) (h8 : x ≠ o + 8) : sp_rs o f w q φ c x = f x := by unfold sp_rs; rw [sv_u_ne h, sp_rc_ne h h8]
theorem sp_rs_8 : sp_rs o f w q φ c (o + 8) = w := by unfold sp_rs; rw [sv_u_ne (by omega), sp_rc_8]
theorem sp_rs_11 : sp_rs o f w q φ c o 11 = q := by
  have : sp_rs o f w q φ c o 11 = sp_rc o f w q φ o 11 := by unfold sp_rs; simp [sv_u]
  rw [this, sp_rc_11]
theorem sp_rs_12 : sp_rs o f w q φ c o 12 = φ := by
  have : sp_rs o f w q φ c o 12 = sp_rc o f w q φ o 12 := by unfold sp_rs; simp [sv_u]
  rw [this, sp_rc_12]
theorem sp_rs_14 : sp_rs o f w q φ c o 14 = c := by unfold sp_rs; simp [sv_u]
theorem sp_rs_o {j : Int} (h : j ≠ 11) (h2 : j ≠ 12) (h3 : j ≠ 14) : sp_rs o f w q φ c o j = f o j := by
  have : sp_rs o f w q φ c o j = sp_rc o f w q φ o j := by unfold sp_rs; simp [sv_u, h3]
  rw [this, sp_rc_o h h2]
theorem sp_rs_rs : sv_u (sp_rc o (sp_rs o f w q φ c) w' q' φ') o 14 c' = sp_rs o f w' q' φ' c' := by
  unfold sp_rs sp_rc; funext x y; simp [sv_u, sv_row]; grind
theorem sp_rs_u11 {a : Int} : sv_u (sp_rs o f w q φ c) o 11 a = sp_rs o f w a φ c := by
  unfold sp_rs sp_rc; funext x y; simp [sv_u, sv_row]; grind
theorem sp_rs_0 : sv_u (sv_u (sv_u f o 11 q) o 12 φ) o 14 c = sp_rs o f (f (o + 8)) q φ c := by
  unfold sp_rs sp_rc; funext x y; simp [sv_u, sv_row]; grind
theorem sp_rs_sq : sp_sq o f (sp_rs o f w q φ c) := ⟨fun x a1 _ _ _ _ a6 _ => sp_rs_ne a1 a6, sp_rs_o (by omega) (by omega) (by omega), sp_rs_o (by omega) (by omega) (by omega)⟩
end SPECRS
section SVHASH
variable {X : sv_X} {R : Room} {M : sv_M} {Z : sv_Z} {kc ks : Nat} {pc : Nat} {ls : sv_L} {st : List sv_V} {S : sv_S} {f : sv_F} {r : sv_R} {g g2 : sv_G}
theorem sv_vm0 {M' : sv_M} {idx d i ci n : Nat} {As : List sv_V} {P : sv_F → Prop} (hl : sv_cV M.1.cls idx M' n) (hd : decode M.2.1 pc = .ok (.invokevirtual idx, 3)) (hcl : ∃ q, vwCl[ci]? = some q ∧ q.1 = M'.1.cls) (hci : ci < 6) (hn : As.length = n) (hst : 2 * st.length ≤ 8) (hR : d + 1 ≤ R.frames ∧ 8 + (M'.2.2.1 + 11) + 36 * d ≤ R.locals) (hc : kc ≤ R.cells ∧ ks ≤ R.slots) (hi : i < S.1) (hk : (S.2 i).1 = ci)
    (hM : sv_C X d M' 0 0 (sv_r i :: As) S f r g (sv_qv P S r g2)) (kk : ∀ f', P f' → sv_T X R M Z kc ks (pc + 3) ls st S f' r g2) : sv_T X R M Z kc ks pc ls (As.reverse ++ sv_r i :: st) S f r g := by
  refine sv_callV hl hM hR hc hi hk hcl hci hn hst hd fun rv S' f' r' g' ⟨h1, h2, h3, h4, h5⟩ => ?_
  subst h1; subst h2; subst h3; subst h4
  exact kk _ h5
theorem sv_ug_ug {i : Nat} {j : Int} {a b : Int64} : sv_ug (sv_ug g i j a) i j b = sv_ug g i j b := by
  funext x y; simp [sv_ug]; grind
theorem sv_ug_at {i : Nat} {j : Int} {a : Int64} : sv_ug g i j a i j = a := by simp [sv_ug]
theorem sv_ug_self {i : Nat} {j : Int} : sv_ug g i j (g i j) = g := by
  funext x y; simp [sv_ug]; grind
/-- one more number in the digest -/
def sp_hx (h : Int64) (a : Int) : Int64 := 31 * h + (Int32.ofInt a).toInt64
def sp_hf (a : Int → Int) (h : Int64) : Nat → Int64
  | 0 => h
  | k + 1 => sp_hx (sp_hf a h k) (a k)
def sp_h2 (a b : Int → Int) (h : Int64) : Nat → Int64
  | 0 => h
  | k + 1 => sp_hx (sp_hx (sp_h2 a b h k) (a k)) (b k)
/-- the digest behind the entry at place s -/
def sp_hk (m : Int → Int) (s : Int) (h : Int64) : Int64 :=
  sp_hx (sp_h2 (fun i => m (29 * s + (5 + i))) (fun i => m (29 * s + (17 + i))) (sp_hf (fun w => sp_part m s w) (sp_hx h (m (29 * s))) 8) (m (29 * s + 4)).toNat) (sp_cau m (m (29 * s)) 0 0)
def sp_hs (m : Int → Int) (h : Int64) : Nat → Int64
  | 0 => h
  | k + 1 => sp_hk m k (sp_hs m h k)
def sp_dig (m : Int → Int) (u tl : Int) (t : Int → Int) : Int64 :=
  sp_hf t (sp_hx (sp_hs m (sp_hf (fun i => m (583 + i)) (sp_hf (fun w => sp_count m u tl w) 176 13) (6 + 2 * m 582).toNat) (m 580).toNat) (sp_nst m)) tl.toNat
end SVHASH
