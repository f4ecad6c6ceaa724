section SPECC
def sp_cp1 (t : Int → Int) (L p : Int) : Int := sp_sk t L (sp_lt t L p)
def sp_cw (t : Int → Int) (L p : Int) : Int := sp_wo t p (sp_lt t L p)
def sp_ca (t : Int → Int) (L p : Int) : Int := sp_nv t L (sp_cp1 t L p)
def sp_cf1 (t : Int → Int) (L hi p : Int) : Int := sp_nf t L (sp_cp1 t L p) 0 hi
def sp_cp2 (t : Int → Int) (L p : Int) : Int := sp_sk t L (sp_cp1 t L p + sp_nl t L (sp_cp1 t L p))
def sp_cf2 (t : Int → Int) (L hi p : Int) : Int := if sp_cw t L p = 0 then sp_nf t L (sp_cp2 t L p) 0 99 else if sp_cw t L p = 1 then sp_af t L (sp_cp2 t L p) else sp_nf t L (sp_cp2 t L p) (if sp_cw t L p = 2 then 0 else sp_ca t L p) hi
def sp_cb (t : Int → Int) (L p : Int) : Int := if sp_cw t L p = 1 then sp_av t L (sp_cp2 t L p) else sp_nv t L (sp_cp2 t L p)
def sp_cp3 (t : Int → Int) (L p : Int) : Int := sp_sk t L (sp_cp2 t L p + if sp_cw t L p = 1 then sp_al t L (sp_cp2 t L p) else sp_nl t L (sp_cp2 t L p))
def sp_cf3 (t : Int → Int) (L p : Int) : Int := if sp_cw t L p = 3 then sp_nf t L (sp_cp3 t L p) 0 99 else -1
def sp_cc (t : Int → Int) (L p : Int) : Int := if sp_cw t L p = 3 then sp_nv t L (sp_cp3 t L p) else 0
def sp_cp4 (t : Int → Int) (L p : Int) : Int := if sp_cw t L p = 3 then sp_sk t L (sp_cp3 t L p + sp_nl t L (sp_cp3 t L p)) else sp_cp3 t L p
/-- the fault of the command that begins at p, -1 if it has none -/
def sp_cf (t : Int → Int) (L hi p : Int) : Int := if sp_cw t L p = -1 then p else if sp_cf1 t L hi p ≠ -1 then sp_cf1 t L hi p else if sp_cf2 t L hi p ≠ -1 then sp_cf2 t L hi p else if sp_cf3 t L p ≠ -1 then sp_cf3 t L p else if sp_nx t L (sp_cp4 t L p) = 59 then -1 else sp_cp4 t L p
/-- where the next command begins -/
def sp_cn (t : Int → Int) (L p : Int) : Int := sp_sk t L (sp_cp4 t L p + 1)
/-- the memory while a command is read -/
def sp_rc (o : Nat) (f : sv_F) (w : Int → Int) (q φ : Int) : sv_F := sv_u (sv_u (sv_row f (o + 8) w) o 11 q) o 12 φ
variable {o : Nat} {f : sv_F} {w : Int → Int} {q φ : Int}
theorem sp_rc_ne {x : Nat} (h : x ≠ o) (h8 : x ≠ o + 8) : sp_rc o f w q φ x = f x := by unfold sp_rc; rw [sv_u_ne h, sv_u_ne h, sv_row_ne h8]
theorem sp_rc_8 : sp_rc o f w q φ (o + 8) = w := by unfold sp_rc; rw [sv_u_ne (by omega), sv_u_ne (by omega)]; funext y; simp [sv_row]
theorem sp_rc_11 : sp_rc o f w q φ o 11 = q := by unfold sp_rc; simp [sv_u]
theorem sp_rc_12 : sp_rc o f w q φ o 12 = φ := by unfold sp_rc; simp [sv_u]
theorem sp_rc_o {j : Int} (h : j ≠ 11) (h2 : j ≠ 12) : sp_rc o f w q φ o j = f o j := by unfold sp_rc; simp [sv_u, sv_row, h, h2]
theorem sp_rc_u11 {a : Int} : sv_u (sp_rc o f w q φ) o 11 a = sp_rc o f w a φ := by unfold sp_rc; funext x y; simp [sv_u]; grind
theorem sp_rc_u12 {a : Int} : sv_u (sp_rc o f w q φ) o 12 a = sp_rc o f w q a := by unfold sp_rc; funext x y; simp [sv_u]; grind
theorem sp_rc_u8 {j a : Int} : sv_u (sp_rc o f w q φ) (o + 8) j a = sp_rc o f (sp_up w j a) q φ := by unfold sp_rc; funext x y; simp [sv_u, sv_row, sp_up]; grind
theorem sp_rc_id : sp_rc o f (f (o + 8)) (f o 11) (f o 12) = f := by unfold sp_rc; funext x y; simp [sv_u, sv_row]; grind
end SPECC
