/-- the forms of an end: a pure answer; nothing but cells of ints changed, with an int, a long or nothing for an answer -/
def sv_qp (rv : Option sv_V) (S : sv_S) (f : sv_F) (r : sv_R) (g : sv_G) : sv_Q := fun rv' S' f' r' g' => rv' = rv ∧ S' = S ∧ f' = f ∧ r' = r ∧ g' = g
def sv_qv (P : sv_F → Prop) (S : sv_S) (r : sv_R) (g : sv_G) : sv_Q := fun rv' S' f' r' g' => rv' = none ∧ S' = S ∧ r' = r ∧ g' = g ∧ P f'
def sv_qi (P : Int → sv_F → Prop) (S : sv_S) (r : sv_R) (g : sv_G) : sv_Q := fun rv' S' f' r' g' => ∃ a, rv' = some (sv_i a) ∧ S' = S ∧ r' = r ∧ g' = g ∧ P a f'
section SVFORM
variable {X : sv_X} {R : Room} {M : sv_M} {Z : sv_Z} {kc ks : Nat} {pc : Nat} {ls : sv_L} {st : List sv_V} {S : sv_S} {f : sv_F} {r : sv_R} {g : sv_G}
theorem sv_cast {ls' : sv_L} {st' : List sv_V} {pc' kc' ks' : Nat} {f' : sv_F} (h : sv_T X R M Z kc' ks' pc' ls' st' S f' r g) (e1 : kc' = kc) (e2 : ks' = ks) (e3 : pc' = pc) (e4 : ls' = ls) (e5 : st' = st) (e6 : f' = f) : sv_T X R M Z kc ks pc ls st S f r g := by
  subst e1; subst e2; subst e3; subst e4; subst e5; subst e6
  exact h
/-- calls of an object's method, by the answer's form -/
theorem sv_vp0 {M' : sv_M} {idx d i ci n : Nat} {As : List sv_V} {v : sv_V} (hl : sv_cV M.1.cls idx M' n) (hd : decode M.2.1 pc = .ok (.invokevirtual idx, 3)) (hcl : ∃ q, vwCl[ci]? = some q ∧ q.1 = M'.1.cls) (hci : ci < 6) (hn : As.length = n) (hst : 2 * st.length ≤ 8) (hR : d + 1 ≤ R.frames ∧ 8 + (M'.2.2.1 + 11) + 36 * d ≤ R.locals) (hc : kc ≤ R.cells ∧ ks ≤ R.slots) (hi : i < S.1) (hk : (S.2 i).1 = ci)
    (hM : sv_C X d M' 0 0 (sv_r i :: As) S f r g (sv_qp (some v) S f r g)) (kk : sv_T X R M Z kc ks (pc + 3) ls (v :: st) S f r g) : sv_T X R M Z kc ks pc ls (As.reverse ++ sv_r i :: st) S f r g := by
  refine sv_callV hl hM hR hc hi hk hcl hci hn hst hd fun rv S' f' r' g' ⟨h1, h2, h3, h4, h5⟩ => ?_
  subst h1; subst h2; subst h3; subst h4; subst h5
  exact kk
theorem sv_vv0 {M' : sv_M} {idx d i ci n : Nat} {As : List sv_V} {P : sv_F → Prop} (hl : sv_cV M.1.cls idx M' n) (hd : decode M.2.1 pc = .ok (.invokevirtual idx, 3)) (hcl : ∃ q, vwCl[ci]? = some q ∧ q.1 = M'.1.cls) (hci : ci < 6) (hn : As.length = n) (hst : 2 * st.length ≤ 8) (hR : d + 1 ≤ R.frames ∧ 8 + (M'.2.2.1 + 11) + 36 * d ≤ R.locals) (hc : kc ≤ R.cells ∧ ks ≤ R.slots) (hi : i < S.1) (hk : (S.2 i).1 = ci)
    (hM : sv_C X d M' 0 0 (sv_r i :: As) S f r g (sv_qv P S r g)) (kk : ∀ f', P f' → sv_T X R M Z kc ks (pc + 3) ls st S f' r g) : sv_T X R M Z kc ks pc ls (As.reverse ++ sv_r i :: st) S f r g := by
  refine sv_callV hl hM hR hc hi hk hcl hci hn hst hd fun rv S' f' r' g' ⟨h1, h2, h3, h4, h5⟩ => ?_
  subst h1; subst h2; subst h3; subst h4
  exact kk _ h5
theorem sv_vi0 {M' : sv_M} {idx d i ci n : Nat} {As : List sv_V} {P : Int → sv_F → Prop} (hl : sv_cV M.1.cls idx M' n) (hd : decode M.2.1 pc = .ok (.invokevirtual idx, 3)) (hcl : ∃ q, vwCl[ci]? = some q ∧ q.1 = M'.1.cls) (hci : ci < 6) (hn : As.length = n) (hst : 2 * st.length ≤ 8) (hR : d + 1 ≤ R.frames ∧ 8 + (M'.2.2.1 + 11) + 36 * d ≤ R.locals) (hc : kc ≤ R.cells ∧ ks ≤ R.slots) (hi : i < S.1) (hk : (S.2 i).1 = ci)
    (hM : sv_C X d M' 0 0 (sv_r i :: As) S f r g (sv_qi P S r g)) (kk : ∀ a f', P a f' → sv_T X R M Z kc ks (pc + 3) ls (sv_i a :: st) S f' r g) : sv_T X R M Z kc ks pc ls (As.reverse ++ sv_r i :: st) S f r g := by
  refine sv_callV hl hM hR hc hi hk hcl hci hn hst hd fun rv S' f' r' g' ⟨a, h1, h2, h3, h4, h5⟩ => ?_
  subst h1; subst h2; subst h3; subst h4
  exact kk _ _ h5
theorem sv_sp0 {M' : sv_M} {idx d n : Nat} {As : List sv_V} {v : sv_V} (hl : sv_cS M.1.cls idx M' n) (hd : decode M.2.1 pc = .ok (.invokestatic idx, 3)) (hn : As.length = n) (hst : 2 * st.length ≤ 8) (hR : d + 1 ≤ R.frames ∧ 8 + (M'.2.2.1 + 11) + 36 * d ≤ R.locals) (hc : kc ≤ R.cells ∧ ks ≤ R.slots)
    (hM : sv_C X d M' 0 0 As S f r g (sv_qp (some v) S f r g)) (kk : sv_T X R M Z kc ks (pc + 3) ls (v :: st) S f r g) : sv_T X R M Z kc ks pc ls (As.reverse ++ st) S f r g := by
  refine sv_callS hl hM hR hc hn hst hd fun rv S' f' r' g' ⟨h1, h2, h3, h4, h5⟩ => ?_
  subst h1; subst h2; subst h3; subst h4; subst h5
  exact kk
theorem sv_sv0 {M' : sv_M} {idx d n : Nat} {As : List sv_V} {P : sv_F → Prop} (hl : sv_cS M.1.cls idx M' n) (hd : decode M.2.1 pc = .ok (.invokestatic idx, 3)) (hn : As.length = n) (hst : 2 * st.length ≤ 8) (hR : d + 1 ≤ R.frames ∧ 8 + (M'.2.2.1 + 11) + 36 * d ≤ R.locals) (hc : kc ≤ R.cells ∧ ks ≤ R.slots)
    (hM : sv_C X d M' 0 0 As S f r g (sv_qv P S r g)) (kk : ∀ f', P f' → sv_T X R M Z kc ks (pc + 3) ls st S f' r g) : sv_T X R M Z kc ks pc ls (As.reverse ++ st) S f r g := by
  refine sv_callS hl hM hR hc hn hst hd fun rv S' f' r' g' ⟨h1, h2, h3, h4, h5⟩ => ?_
  subst h1; subst h2; subst h3; subst h4
  exact kk _ h5
/-- a truth value on the stack -/
theorem sv_bz {p : Prop} [Decidable p] : (if p then (1 : Int) else 0) = 0 ↔ ¬ p := by
  by_cases h : p <;> simp [h]
theorem sv_b01 (p : Prop) [Decidable p] : (if p then (1 : Int) else 0) = 0 ∨ (if p then (1 : Int) else 0) = 1 := by
  by_cases h : p <;> simp [h]
theorem sv_bin (p : Prop) [Decidable p] : sv_in (if p then (1 : Int) else 0) := by
  by_cases h : p <;> simp [h] <;> omega
theorem sv_bif_eq {p : Prop} [Decidable p] {off : Int} {tgt : Nat} (hd : decode M.2.1 pc = .ok (.ifCond .eq off, 3)) (ht : (pc : Int) + off = (tgt : Int)) (kt : ¬ p → sv_T X R M Z kc ks tgt ls st S f r g) (kf : p → sv_T X R M Z kc ks (pc + 3) ls st S f r g) : sv_T X R M Z kc ks pc ls (sv_i (if p then 1 else 0) :: st) S f r g :=
  sv_if_eq hd ht (sv_bin p) (fun h => kt (sv_bz.mp h)) (fun h => kf (Decidable.of_not_not fun q => h (sv_bz.mpr q)))
theorem sv_bif_ne {p : Prop} [Decidable p] {off : Int} {tgt : Nat} (hd : decode M.2.1 pc = .ok (.ifCond .ne off, 3)) (ht : (pc : Int) + off = (tgt : Int)) (kt : p → sv_T X R M Z kc ks tgt ls st S f r g) (kf : ¬ p → sv_T X R M Z kc ks (pc + 3) ls st S f r g) : sv_T X R M Z kc ks pc ls (sv_i (if p then 1 else 0) :: st) S f r g :=
  sv_if_ne hd ht (sv_bin p) (fun h => kt (Decidable.of_not_not fun q => h (sv_bz.mpr q))) (fun h => kf (sv_bz.mp h))
end SVFORM
/-- fewer known locals are enough -/
def sv_sub : sv_L → sv_L → Prop
  | [], _ => True
  | none :: a, _ :: b => sv_sub a b
  | some v :: a, w :: b => w = some v ∧ sv_sub a b
  | _ :: _, [] => False
theorem sv_sub_get : ∀ (a b : sv_L), sv_sub a b → ∀ (i : Nat) (v : sv_V), a[i]? = some (some v) → b[i]? = some (some v)
  | [], b, _, i, v, h => by simp at h
  | none :: a, [], hs, i, v, h => absurd hs (by simp [sv_sub])
  | some u :: a, [], hs, i, v, h => absurd hs (by simp [sv_sub])
  | none :: a, w :: b, hs, 0, v, h => by simp at h
  | none :: a, w :: b, hs, i + 1, v, h => by
    have := sv_sub_get a b hs i v (by simpa using h)
    simpa using this
  | some u :: a, w :: b, hs, 0, v, h => by
    have e : u = v := by simpa using h
    rw [← e]
    show some w = some (some u)
    rw [hs.1]
  | some u :: a, w :: b, hs, i + 1, v, h => by
    have := sv_sub_get a b hs.2 i v (by simpa using h)
    simpa using this
section SVWK
variable {X : sv_X} {R : Room} {M : sv_M} {Z : sv_Z} {kc ks : Nat} {pc : Nat} {ls : sv_L} {st : List sv_V} {S : sv_S} {f : sv_F} {r : sv_R} {g : sv_G}
theorem sv_wk {ls' : sv_L} {f' : sv_F} (h : sv_T X R M Z kc ks pc ls' st S f' r g) (e4 : sv_sub ls' ls) (e6 : f' = f) : sv_T X R M Z kc ks pc ls st S f r g := by
  subst e6
  intro p l e s m args below meth c H locs la hF hP hS hH
  exact h p l e s m args below meth c H locs la hF hP hS ⟨hH.1, hH.2.1, fun i v hv => hH.2.2 i v (sv_sub_get _ _ e4 i v hv)⟩
end SVWK
