section SPECT
/-- the letter that stands next; -1 at the end -/
def sp_nx (t : Int → Int) (L p : Int) : Int := if p < L then t p else -1
def sp_dg (t : Int → Int) (L p : Int) : Bool := decide (48 ≤ sp_nx t L p ∧ sp_nx t L p ≤ 57)
theorem sp_dg_iff {t : Int → Int} {L p : Int} : sp_dg t L p = true ↔ (48 ≤ sp_nx t L p ∧ sp_nx t L p ≤ 57) := by simp [sp_dg]
def sp_skn (t : Int → Int) : Nat → Int → Int
  | 0, p => p
  | k + 1, p => if t p = 32 then sp_skn t k (p + 1) else p
def sp_sk (t : Int → Int) (L p : Int) : Int := sp_skn t (L - p).toNat p
def sp_ltn (t : Int → Int) : Nat → Int → Int
  | 0, p => p
  | k + 1, p => if 97 ≤ t p ∧ t p ≤ 122 then sp_ltn t k (p + 1) else p
def sp_lt (t : Int → Int) (L p : Int) : Int := sp_ltn t (L - p).toNat p
theorem sp_skn_bd (t : Int → Int) : ∀ (k : Nat) (p : Int), p ≤ sp_skn t k p ∧ sp_skn t k p ≤ p + k := by
  intro k
  induction k with
  | zero => intro p; simp [sp_skn]
  | succ k ih => intro p; unfold sp_skn; split; · have := ih (p + 1); omega
                 · omega
theorem sp_sk_bd {t : Int → Int} {L p : Int} (h : p ≤ L) : p ≤ sp_sk t L p ∧ sp_sk t L p ≤ L := by
  have := sp_skn_bd t (L - p).toNat p
  unfold sp_sk; omega
theorem sp_sk_on {t : Int → Int} {L p : Int} (h : sp_nx t L p = 32) : sp_sk t L p = sp_sk t L (p + 1) := by
  have h1 : p < L := by unfold sp_nx at h; split at h; · assumption
                        · omega
  have h2 : t p = 32 := by unfold sp_nx at h; rw [if_pos h1] at h; exact h
  unfold sp_sk
  rw [show (L - p).toNat = (L - (p + 1)).toNat + 1 by omega]
  conv => lhs; unfold sp_skn
  rw [if_pos h2]
theorem sp_sk_end {t : Int → Int} {L p : Int} (h : sp_nx t L p ≠ 32) : sp_sk t L p = p := by
  unfold sp_sk
  by_cases h1 : p < L
  · unfold sp_nx at h; rw [if_pos h1] at h
    rw [show (L - p).toNat = (L - (p + 1)).toNat + 1 by omega]
    unfold sp_skn; rw [if_neg h]
  · rw [show (L - p).toNat = 0 by omega]; rfl
theorem sp_ltn_bd (t : Int → Int) : ∀ (k : Nat) (p : Int), p ≤ sp_ltn t k p ∧ sp_ltn t k p ≤ p + k := by
  intro k
  induction k with
  | zero => intro p; simp [sp_ltn]
  | succ k ih => intro p; unfold sp_ltn; split; · have := ih (p + 1); omega
                 · omega
theorem sp_lt_bd {t : Int → Int} {L p : Int} (h : p ≤ L) : p ≤ sp_lt t L p ∧ sp_lt t L p ≤ L := by
  have := sp_ltn_bd t (L - p).toNat p
  unfold sp_lt; omega
theorem sp_lt_on {t : Int → Int} {L p : Int} (h : 97 ≤ sp_nx t L p ∧ sp_nx t L p ≤ 122) : sp_lt t L p = sp_lt t L (p + 1) := by
  have h1 : p < L := by unfold sp_nx at h; split at h; · assumption
                        · omega
  have h2 : 97 ≤ t p ∧ t p ≤ 122 := by unfold sp_nx at h; rw [if_pos h1] at h; exact h
  unfold sp_lt
  rw [show (L - p).toNat = (L - (p + 1)).toNat + 1 by omega]
  conv => lhs; unfold sp_ltn
  rw [if_pos h2]
theorem sp_lt_end {t : Int → Int} {L p : Int} (h : ¬ (97 ≤ sp_nx t L p ∧ sp_nx t L p ≤ 122)) : sp_lt t L p = p := by
  unfold sp_lt
  by_cases h1 : p < L
  · unfold sp_nx at h; rw [if_pos h1] at h
    rw [show (L - p).toNat = (L - (p + 1)).toNat + 1 by omega]
    unfold sp_ltn; rw [if_neg h]
  · rw [show (L - p).toNat = 0 by omega]; rfl
theorem sp_dg_lt {t : Int → Int} {L p : Int} (h : sp_dg t L p = true) : p < L := by
  rw [sp_dg_iff] at h
  unfold sp_nx at h; split at h
  · assumption
  · omega
/-- how many digits a number takes, at most two -/
def sp_nl (t : Int → Int) (L p : Int) : Int := if sp_dg t L p then (if sp_dg t L (p + 1) then 2 else 1) else 0
def sp_nv (t : Int → Int) (L p : Int) : Int := if sp_dg t L p then (if sp_dg t L (p + 1) then 10 * (t p - 48) + (t (p + 1) - 48) else t p - 48) else 0
theorem sp_nv_bd (t : Int → Int) (L p : Int) : 0 ≤ sp_nv t L p ∧ sp_nv t L p ≤ 99 := by
  unfold sp_nv
  split
  · rename_i h
    have h0 := sp_dg_lt h
    rw [sp_dg_iff] at h; unfold sp_nx at h; rw [if_pos h0] at h
    split
    · rename_i h2
      have h1 := sp_dg_lt h2
      rw [sp_dg_iff] at h2; unfold sp_nx at h2; rw [if_pos h1] at h2
      omega
    · omega
  · omega
theorem sp_nl_bd {t : Int → Int} {L p : Int} (h : p ≤ L) : 0 ≤ sp_nl t L p ∧ p + sp_nl t L p ≤ L := by
  unfold sp_nl; split
  · rename_i h1; have := sp_dg_lt h1; split
    · rename_i h2; have := sp_dg_lt h2; omega
    · omega
  · omega
/-- the fault of a number, -1 if it has none -/
def sp_nf (t : Int → Int) (L p lo hi : Int) : Int := if sp_nl t L p = 0 ∨ ¬ (lo ≤ sp_nv t L p ∧ sp_nv t L p ≤ hi) then p else if sp_dg t L (p + sp_nl t L p) then p + sp_nl t L p else -1
theorem sv_u_u {f : sv_F} {i : Nat} {j a b : Int} : sv_u (sv_u f i j a) i j b = sv_u f i j b := by
  funext x y; simp [sv_u]; grind
theorem sv_u_self {f : sv_F} {i : Nat} {j a : Int} (h : f i j = a) : f = sv_u f i j a := by
  funext x y; simp [sv_u]; grind
end SPECT
