section SVHASH
variable {X : sv_X} {R : Room} {M : sv_M} {Z : sv_Z} {kc ks : Nat} {pc : Nat} {ls : sv_L} {st : List sv_V} {S : sv_S} {f : sv_F} {r : sv_R} {g g2 : sv_G}
theorem sv_vm0 {M' : sv_M} {idx d i ci n : Nat} {As : List sv_V} {P : sv_F → Prop} (hl : sv_cV M.1.cls idx M' n) (hd : decode M.2.1 pc = .ok (.invokevirtual idx, 3)) (hcl : ∃ q, vwCl[ci]? = some q ∧ q.1 = M'.1.cls) (hci : ci < 6) (hn : As.length = n) (hst : 2 * st.length ≤ 8) (hR : d + 1 ≤ R.frames ∧ 8 + (M'.2.2.1 + 11) + 36 * d ≤ R.locals) (hc : kc ≤ R.cells ∧ ks ≤ R.slots) (hi : i < S.1) (hk : (S.2 i).1 = ci)
    (hM : sv_C X d M' 0 0 (sv_r i :: As) S f r g (sv_qv P S r g2)) (kk : ∀ f', P f' → sv_T X R M Z kc ks (pc + 3) ls st S f' r g2) : sv_T X R M Z kc ks pc ls (As.reverse ++ sv_r i :: st) S f r g := by
  refine sv_callV hl hM hR hc hi hk hcl hci hn hst hd fun rv S' f' r' g' ⟨h1, h2, h3, h4, h5⟩ => ?_
  subst h1; subst h2; subst h3; subst h4
  exact kk _ h5
theorem sv_ug_ug {i : Nat} {j : Int} {a b : Int64} : sv_ug (sv_ug g i j a) i j b = sv_ug g i j b := by
  funext x y; simp [sv_ug]; grind
theorem sv_ug_at {i : Nat} {j : Int} {a : Int64} : sv_ug g i j a i j = a := by simp [sv_ug]
theorem sv_ug_self {i : Nat} {j : Int} : sv_ug g i j (g i j) = g := by
  funext x y; simp [sv_ug]; grind
/-- one more number in the digest -/
def sp_hx (h : Int64) (a : Int) : Int64 := 31 * h + (Int32.ofInt a).toInt64
def sp_hf (a : Int → Int) (h : Int64) : Nat → Int64
  | 0 => h
  | k + 1 => sp_hx (sp_hf a h k) (a k)
def sp_h2 (a b : Int → Int) (h : Int64) : Nat → Int64
  | 0 => h
  | k + 1 => sp_hx (sp_hx (sp_h2 a b h k) (a k)) (b k)
/-- the digest behind the entry at place s -/
def sp_hk (m : Int → Int) (s : Int) (h : Int64) : Int64 :=
  sp_hx (sp_h2 (fun i => m (29 * s + (5 + i))) (fun i => m (29 * s + (17 + i))) (sp_hf (fun w => sp_part m s w) (sp_hx h (m (29 * s))) 8) (m (29 * s + 4)).toNat) (sp_cau m (m (29 * s)) 0 0)
def sp_hs (m : Int → Int) (h : Int64) : Nat → Int64
  | 0 => h
  | k + 1 => sp_hk m k (sp_hs m h k)
def sp_dig (m : Int → Int) (u tl : Int) (t : Int → Int) : Int64 :=
  sp_hf t (sp_hx (sp_hs m (sp_hf (fun i => m (583 + i)) (sp_hf (fun w => sp_count m u tl w) 176 13) (6 + 2 * m 582).toNat) (m 580).toNat) (sp_nst m)) tl.toNat
end SVHASH
set_option maxRecDepth 100000 in
set_option maxHeartbeats 4000000 in
theorem c_X5_mixes {X : sv_X} {S : sv_S} {f : sv_F} {r : sv_R} {g : sv_G} {o : Nat} (hsh : sv_M5 S r o) (x : Int64) : sv_C X 0 MX5_mixes 0 0 [sv_r o, sv_l x] S f r g (sv_qv (fun f' => f' = f) S r (sv_ug g o 16 (31 * g o 16 + x))) := by
  refine sv_met (by decide) (by simp [lg_sl, sv_cv, va_rf, Value.category]) ?_
  refine sv_fr fun hin => ?_
  refine sv_aload_n (i := 0) dX5_mixes_0 rfl rfl ?_
  refine sv_ldc2 (n := 31) dX5_mixes_1 (List.mem_of_getElem? (i := 942) (by decide +kernel)) ?_
  refine sv_aload_n (i := 0) dX5_mixes_4 rfl rfl ?_
  refine sv_getL (kz := 16) flX5_196 dX5_mixes_5 rfl rfl hsh.lt hsh.k ?_
  refine sv_lmul dX5_mixes_8 ?_
  refine sv_lload_n (i := 1) dX5_mixes_9 rfl rfl ?_
  refine sv_ladd dX5_mixes_10 ?_
  refine sv_putL (kz := 16) flX5_196 dX5_mixes_11 (Or.inl rfl) rfl rfl hsh.lt hsh.k ?_
  refine sv_return dX5_mixes_14 rfl ?_
  exact ⟨rfl, rfl, rfl, rfl, rfl⟩
theorem c_mixes {X : sv_X} {S : sv_S} {f : sv_F} {r : sv_R} {g : sv_G} {o : Nat} {h : Int64} (hsh : sv_M5 S r o) (a : Int) : sv_C X 0 MX5_mixes 0 0 [sv_r o, sv_l (Int32.ofInt a).toInt64] S f r (sv_ug g o 16 h) (sv_qv (fun f' => f' = f) S r (sv_ug g o 16 (sp_hx h a))) := by
  have := c_X5_mixes (X := X) (f := f) (g := sv_ug g o 16 h) hsh (Int32.ofInt a).toInt64
  rw [sv_ug_ug, sv_ug_at] at this
  exact this
