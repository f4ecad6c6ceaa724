def sv_u (f : sv_F) (i : Nat) (j : Int) (a : Int) : sv_F := fun x y => if x = i ∧ y = j then a else f x y
def sv_ur (f : sv_R) (i : Nat) (j : Int) (a : Option Nat) : sv_R := fun x y => if x = i ∧ y = j then a else f x y
def sv_ug (f : sv_G) (i : Nat) (j : Int) (a : Int64) : sv_G := fun x y => if x = i ∧ y = j then a else f x y
theorem sv_u_ne {f : sv_F} {i : Nat} {j a : Int} {x : Nat} (h : x ≠ i) : sv_u f i j a x = f x := by
  funext y
  simp [sv_u, h]
theorem sv_ur_ne {f : sv_R} {i : Nat} {j : Int} {a : Option Nat} {x : Nat} (h : x ≠ i) : sv_ur f i j a x = f x := by
  funext y
  simp [sv_ur, h]
theorem sv_ug_ne {f : sv_G} {i : Nat} {j : Int} {a : Int64} {x : Nat} (h : x ≠ i) : sv_ug f i j a x = f x := by
  funext y
  simp [sv_ug, h]
/-- a class of ours, by its place among the classes -/
def sv_cb (ci : Nat) (q : vw_C) : Prop := vwCl[ci]? = some q ∧ q.2.2 = sv_cn ci ∧ ci < 6 ∧ (∀ w ∈ u_ws q.1 q.2.1 q.2.2, w ∈ lw_tbl) ∧ (∀ k, k < q.2.2 → parseFieldDescriptor (q.2.1 k).2.2.1 = some (sv_ty ci k)) ∧ ∀ a, a < q.2.2 → ∀ b, b < q.2.2 → a ≠ b → (q.2.1 a).2.1 ≠ (q.2.1 b).2.1
theorem sv_cb0 : sv_cb 0 (RX0, TX0, 7) := ⟨rfl, rfl, by decide, inX0, tyX0_ok, nmX0⟩
theorem sv_cb1 : sv_cb 1 (RX1, TX1, 7) := ⟨rfl, rfl, by decide, inX1, tyX1_ok, nmX1⟩
theorem sv_cb2 : sv_cb 2 (RX2, TX2, 2) := ⟨rfl, rfl, by decide, inX2, tyX2_ok, nmX2⟩
theorem sv_cb3 : sv_cb 3 (RX3, TX3, 6) := ⟨rfl, rfl, by decide, inX3, tyX3_ok, nmX3⟩
theorem sv_cb4 : sv_cb 4 (RX4, TX4, 7) := ⟨rfl, rfl, by decide, inX4, tyX4_ok, nmX4⟩
/-- a field, as an entry of a class's file names it -/
def sv_fl (own : String) (idx ci k : Nat) (fin : Bool) : Prop := ∃ q : vw_C, sv_cb ci q ∧ k < q.2.2 ∧ (q.2.1 k).2.2.2 = fin ∧ (q.2.1 k).1 = q.1 ∧ (Cond.fieldLink own idx (q.2.1 k).1 (q.2.1 k).2.1 (q.2.1 k).2.2.1 ∈ lw_tbl ∨ ∃ host, Cond.fieldLinkNest own idx (q.2.1 k).1 (q.2.1 k).2.1 (q.2.1 k).2.2.1 host ∈ lw_tbl)
theorem sv_lay_ok {C : String} {T : u_T} {N : Nat} : ∀ w ∈ u_ws C T N, sv_ok w = true := by
  intro w hw
  obtain ⟨k, -, rfl⟩ := List.mem_map.mp hw
  unfold u_lay
  split <;> rfl
def sv_isr (t : FieldType) : Bool := match t with
  | .object _ => true
  | .array _ => true
  | _ => false
theorem sv_fs_len {b ci : Nat} {fi : Int → Int} {ri : Int → Option Nat} {gi : Int → Int64} : (sv_fs b ci fi ri gi).length = sv_cn ci := by simp [sv_fs]
theorem sv_fs_get {b ci k : Nat} {fi : Int → Int} {ri : Int → Option Nat} {gi : Int → Int64} (h : k < sv_cn ci) : (sv_fs b ci fi ri gi)[k]? = some (sv_fv b (sv_ty ci k) (fi k) (ri k) (gi k)) := by
  simp [sv_fs, List.getElem?_map, List.getElem?_range h]
theorem sv_fs_set {b ci k : Nat} {fi fi' : Int → Int} {ri ri' : Int → Option Nat} {gi gi' : Int → Int64} {v : Value} (hv : v = sv_fv b (sv_ty ci k) (fi' k) (ri' k) (gi' k)) (hf : ∀ j : Nat, j ≠ k → fi' j = fi j) (hr : ∀ j : Nat, j ≠ k → ri' j = ri j) (hg : ∀ j : Nat, j ≠ k → gi' j = gi j) : (sv_fs b ci fi ri gi).set k v = sv_fs b ci fi' ri' gi' := by
  apply List.ext_getElem?
  intro j
  by_cases hj : j < sv_cn ci
  · by_cases hjk : j = k
    · subst hjk
      rw [List.getElem?_set_self (by rw [sv_fs_len]; exact hj), sv_fs_get hj, hv]
    · rw [List.getElem?_set_ne (Ne.symm hjk), sv_fs_get hj, sv_fs_get hj, hf j hjk, hr j hjk, hg j hjk]
  · rw [List.getElem?_eq_none (by rw [List.length_set, sv_fs_len]; omega), List.getElem?_eq_none (by rw [sv_fs_len]; omega)]
theorem sv_e_obj {X : sv_X} {kn : Nat × Nat} {ci : Nat} {fi : Int → Int} {ri : Int → Option Nat} {gi : Int → Int64} (h : kn.1 = ci) (hc : ci < 6) : sv_e X kn fi ri gi = .inr (ci, sv_fs X.1 ci fi ri gi) := by
  unfold sv_e
  rw [if_pos (by omega), h]
theorem sv_e_int {X : sv_X} {n : Nat} {fi : Int → Int} {ri : Int → Option Nat} {gi : Int → Int64} : sv_e X (6, n) fi ri gi = .inl (X.2.2.1 0, n, .inl (fun j => Int32.ofInt (fi (j : Int)))) := rfl
theorem sv_e_bool {X : sv_X} {n : Nat} {fi : Int → Int} {ri : Int → Option Nat} {gi : Int → Int64} : sv_e X (7, n) fi ri gi = .inl (X.2.2.1 1, n, .inl (fun j => Int32.ofInt (fi (j : Int)))) := rfl
theorem sv_e_ref {X : sv_X} {t n : Nat} {fi : Int → Int} {ri : Int → Option Nat} {gi : Int → Int64} : sv_e X (8 + t, n) fi ri gi = .inl (X.2.2.1 (2 + t), n, .inr (.inr (.inr (.inr (fun j => (ri (j : Int)).map (X.1 + ·)))))) := by
  unfold sv_e
  rw [if_neg (by show ¬ 8 + t < 6; omega), if_neg (by show ¬ 8 + t < 8; omega)]
  show Sum.inl (X.2.2.1 (8 + t - 6), _) = _
  rw [show 8 + t - 6 = 2 + t by omega]
theorem sv_vp {j : Int} {n : Nat} (h : 0 ≤ j ∧ j < (n : Int)) (hn : n ≤ 100000) : vp_in (Int32.ofInt j) n ∧ (((Int32.ofInt j).toNatClampNeg : Nat) : Int) = j := by
  have e : (Int32.ofInt j).toInt = j := sv_toInt (by omega)
  have e2 : (Int32.ofInt j).toNatClampNeg = j.toNat := by rw [← Int32.toNat_toInt, e]
  refine ⟨vp_in_iff.mpr (by rw [e]; exact h), by rw [e2]; omega⟩
section SVHEAP
variable {X : sv_X} {R : Room} {M : sv_M} {Z : sv_Z} {kc ks : Nat} {pc : Nat} {ls : sv_L} {st : List sv_V} {S : sv_S} {f : sv_F} {r : sv_R} {g : sv_G}
theorem sv_get0 {idx ci k i : Nat} {fin : Bool} (hw : sv_fl M.1.cls idx ci k fin) (hd : decode M.2.1 pc = .ok (.getfield idx, 3)) (hi : i < S.1) (hk : (S.2 i).1 = ci) {v : sv_V} (hv : sv_cv X.1 v = sv_fv X.1 (sv_ty ci k) (f i k) (r i k) (g i k)) (kk : sv_T X R M Z kc ks (pc + 3) ls (v :: st) S f r g) : sv_T X R M Z kc ks pc ls (sv_r i :: st) S f r g := by
  intro p l e s m args below meth c H locs la hF hP hS hH
  obtain ⟨⟨C, T, N⟩, ⟨c1, c2, c3, c4, c5, c6⟩, hkN, -, hsm, hl⟩ := hw
  have hkk := kk p l e s m args below meth c H locs la hF hP hS hH
  have hKw := hF.2.2.2.2.2.2.2.1.1
  have hK := hF.2.2.2.2.2.2.2.1.2.1
  have he : (sv_ws X S f r g)[i]? = some (X.1 + i, .inr (ci, sv_fs X.1 ci (f i) (r i) (g i))) := by rw [sv_ws_get hi, sv_e_obj hk c3]
  have hvv : (sv_fs X.1 ci (f i) (r i) (g i))[k]? = some (sv_cv X.1 v) := by rw [sv_fs_get (by rw [← c2]; exact hkN), hv]
  have hts : ∀ w ∈ u_ws C T N, w.before args s = true := fun w h => hKw.use (c4 w h) (sv_lay_ok w h)
  rcases hl with hl | ⟨host, hl⟩
  · exact va_get (C := C) (T := T) (N := N) hF.1 hF.2.1 hts (fun _ h => h) hF.2.2.2.2.1 hK hP.1 i he c1 k hkN (hKw.use hl rfl) (fun _ h => h) hvv hd hkk
  · exact va_getN (C := C) (T := T) (N := N) hF.1 hF.2.1 hts (fun _ h => h) hF.2.2.2.2.1 hK hP.1 i he c1 k hkN (hKw.use hl (by unfold sv_ok; exact Bool.or_true _)) (fun _ h => h) hvv hd hkk
theorem sv_getI {idx ci k i : Nat} {kz : Int} {fin : Bool} (hw : sv_fl M.1.cls idx ci k fin) (hd : decode M.2.1 pc = .ok (.getfield idx, 3)) (hz : (k : Int) = kz) (ht : sv_ty ci k = .int) (hi : i < S.1) (hk : (S.2 i).1 = ci) (kk : sv_T X R M Z kc ks (pc + 3) ls (sv_i (f i kz) :: st) S f r g) : sv_T X R M Z kc ks pc ls (sv_r i :: st) S f r g := by
  subst hz
  exact sv_get0 hw hd hi hk (v := sv_i (f i k)) (by rw [ht]; rfl) kk
theorem sv_getL {idx ci k i : Nat} {kz : Int} {fin : Bool} (hw : sv_fl M.1.cls idx ci k fin) (hd : decode M.2.1 pc = .ok (.getfield idx, 3)) (hz : (k : Int) = kz) (ht : sv_ty ci k = .long) (hi : i < S.1) (hk : (S.2 i).1 = ci) (kk : sv_T X R M Z kc ks (pc + 3) ls (sv_l (g i kz) :: st) S f r g) : sv_T X R M Z kc ks pc ls (sv_r i :: st) S f r g := by
  subst hz
  exact sv_get0 hw hd hi hk (v := sv_l (g i k)) (by rw [ht]; rfl) kk
theorem sv_fv_r {b : Nat} {t : FieldType} {a : Int} {o : Option Nat} {x : Int64} (h : sv_isr t = true) : sv_fv b t a o x = va_rf (o.map (b + ·)) := by
  cases t <;> first | rfl | (simp [sv_isr] at h)
theorem sv_getR {idx ci k i j : Nat} {kz : Int} {fin : Bool} (hw : sv_fl M.1.cls idx ci k fin) (hd : decode M.2.1 pc = .ok (.getfield idx, 3)) (hz : (k : Int) = kz) (ht : sv_isr (sv_ty ci k) = true) (hi : i < S.1) (hk : (S.2 i).1 = ci) (hj : r i kz = some j) (kk : sv_T X R M Z kc ks (pc + 3) ls (sv_r j :: st) S f r g) : sv_T X R M Z kc ks pc ls (sv_r i :: st) S f r g := by
  subst hz
  exact sv_get0 hw hd hi hk (v := sv_r j) (by rw [sv_fv_r ht, hj]; rfl) kk
theorem sv_put0 {idx ci k i : Nat} {fin : Bool} {f' : sv_F} {r' : sv_R} {g' : sv_G} (hw : sv_fl M.1.cls idx ci k fin) (hd : decode M.2.1 pc = .ok (.putfield idx, 3)) (hfin : fin = false ∨ (M.1.name = "<init>" ∧ ∃ q, vwCl[ci]? = some q ∧ q.1 = M.1.cls)) (hi : i < S.1) (hk : (S.2 i).1 = ci) {v : sv_V} (hv : sv_cv X.1 v = sv_fv X.1 (sv_ty ci k) (f' i k) (r' i k) (g' i k))
    (hn : narrow (sv_ty ci k) (sv_cv X.1 v) = sv_cv X.1 v) (hfit : fits (sv_ty ci k) (sv_cv X.1 v) = true) (hf0 : ∀ j, j ≠ i → f' j = f j) (hr0 : ∀ j, j ≠ i → r' j = r j) (hg0 : ∀ j, j ≠ i → g' j = g j) (hf : ∀ j : Nat, j ≠ k → f' i j = f i j) (hr : ∀ j : Nat, j ≠ k → r' i j = r i j) (hg : ∀ j : Nat, j ≠ k → g' i j = g i j) (hin : ∀ i j, sv_in (f' i j))
    (kk : sv_T X R M Z kc ks (pc + 3) ls st S f' r' g') : sv_T X R M Z kc ks pc ls (v :: sv_r i :: st) S f r g := by
  intro p l e s m args below meth c H locs la hF hP hS hH
  obtain ⟨⟨C, T, N⟩, ⟨c1, c2, c3, c4, c5, c6⟩, hkN, hff, hsm, hl⟩ := hw
  have hKw := hF.2.2.2.2.2.2.2.1.1
  have hK := hF.2.2.2.2.2.2.2.1.2.1
  have he : (sv_ws X S f r g)[i]? = some (X.1 + i, .inr (ci, sv_fs X.1 ci (f i) (r i) (g i))) := by rw [sv_ws_get hi, sv_e_obj hk c3]
  have hts : ∀ w ∈ u_ws C T N, w.before args s = true := fun w h => hKw.use (c4 w h) (sv_lay_ok w h)
  have hlen : k < (sv_fs X.1 ci (f i) (r i) (g i)).length := by rw [sv_fs_len, ← c2]; exact hkN
  have hset : (sv_ws X S f r g).set i (X.1 + i, .inr (ci, (sv_fs X.1 ci (f i) (r i) (g i)).set k (sv_cv X.1 v))) = sv_ws X S f' r' g' := by
    refine sv_ws_set (fun _ => ?_) hf0 hr0 hg0
    rw [sv_e_obj hk c3, sv_fs_set hv hf hr hg]
  have go : ∀ (H1 : Heap) (locs1 : List Loc), va_P X.2.1 vwCl ((sv_ws X S f r g).set i (X.1 + i, .inr (ci, (sv_fs X.1 ci (f i) (r i) (g i)).set k (sv_cv X.1 v)))) H1 → va_S (fun q => X.1 ≤ q) s.heap H1 locs1 → H1.size = H.size → W p l e R s m args below meth c H1 locs1 kc ks (Z below args s) (F0 m (pc + 3) la (st.map (sv_cv X.1))) := by
    intro H1 locs1 hP1 hS1 hz
    rw [hset] at hP1
    exact kk p l e s m args below meth c H1 locs1 la hF ⟨hP1, by rw [hz]; exact hP.2.1, hin, hP.2.2.2⟩ hS1 hH
  have hap := va_apart (own := M.1.cls) hts (fun _ h => h) (sv_ty ci) c5 c6 hK c1
  obtain ⟨r0, h1, cell, q1, q2, q3, q4⟩ := hP.1 i _ he
  have hr1 : r0 = (C, T, N) := Option.some.inj (h1.symm.trans c1)
  subst hr1
  obtain ⟨hSl, hfc, kC, hkC, hkind⟩ := hK.1 ci _ c1
  obtain ⟨cf, kf, fi, fd, hi2, hsl⟩ := hSl k hkN
  have hst := (u_facts hfc hkC (u_lays hts (fun _ h => h) hkN) hi2).1
  have hlay := hts _ (u_in_lay hkN)
  have e3 : (hasFlag fd.accessFlags Acc.final = false ∨ (m.cls = cf ∧ meth.name = "<init>")) ∧ narrow fd.type (sv_cv X.1 v) = sv_cv X.1 v ∧ s.fitsSlot (X.2.1.1 ci) .none fd.slot (sv_cv X.1 v) = true := by
    cases fin with
    | false =>
      unfold u_lay at hlay
      rw [if_neg (by rw [hff]; decide)] at hlay
      have h6 := u_store hfc hkC hkind hlay hi2 (c5 k hkN) hn hfit
      exact ⟨Or.inl h6.1, h6.2.1, h6.2.2⟩
    | true =>
      rcases hfin with h | ⟨h7, q7, h8, h9⟩
      · cases h
      · unfold u_lay at hlay
        rw [if_pos hff] at hlay
        have hcf : m.cls = cf := by
          obtain ⟨_, _, c', _, _, _, -, -, hf', -, -, -, hown2, -⟩ := Cond.laysFinal_spec hlay
          have e1 : c' = cf := by have := hi2.symm.trans hf'; simp at this; exact this.1.symm
          have e2 : q7 = (C, T, N) := Option.some.inj (h8.symm.trans c1)
          rw [e2] at h9
          have hsm' : (T k).1 = C := hsm
          have h9' : C = M.1.cls := h9
          rw [hsm', h9'] at hown2
          rw [← e1]; exact Option.some.inj (hF.2.2.2.2.1.symm.trans hown2)
        have h6 := u_fits hfc hkC hkind (Or.inr hlay) hi2 (c5 k hkN) hn hfit
        exact ⟨Or.inr ⟨hcf, by rw [hF.2.2.2.2.2.2.1]; exact h7⟩, h6⟩
  have ha : X.1 + i < H.size := (Array.getElem?_eq_some_iff.mp q1).1
  have hslot : fd.slot < cell.slots.size := by rw [hsl]; exact k2_hasslot (q4 k hkN)
  have fin1 : W p l e R s m args below meth c (H.setIfInBounds (X.1 + i) (cell.setSlot fd.slot (sv_cv X.1 v))) (locs ++ [⟨X.1 + i, fd.slot⟩]) kc ks (Z below args s) (F0 m (pc + 3) la (st.map (sv_cv X.1))) := by
    have e4 : (H.setIfInBounds (X.1 + i) (cell.setSlot fd.slot (sv_cv X.1 v)))[X.1 + i]? = some (cell.setSlot fd.slot (sv_cv X.1 v)) := by simp [Array.getElem?_setIfInBounds, ha]
    have e5 : ∀ q : Nat, q ≠ X.1 + i → (H.setIfInBounds (X.1 + i) (cell.setSlot fd.slot (sv_cv X.1 v)))[q]? = H[q]? := fun q hq => by simp [Array.getElem?_setIfInBounds, Ne.symm hq]
    refine go _ _ (hP.1.set sv_ws_D he ⟨_, c1, t_OB.to (V := updV (vp_V (sv_fs X.1 ci (f i) (r i) (g i))) k (sv_cv X.1 v)) ⟨_, e4, q2, q3, ?_⟩ (fun j _ => vp_updV_set hlen (sv_cv X.1 v) j)⟩ e5) (hS.put (by simp) e5 (by show X.1 ≤ X.1 + i; omega)) (by simp)
    have := t_set q4 hap hkN (sv_cv X.1 v)
    rw [hsl]
    exact this
  rcases hl with hl | ⟨host, hl⟩
  · exact W.putf hF.1 hF.2.1 hF.2.2.2.2.1 (hKw.use hl rfl) (f := fd) hi2 hst e3.1 q1 (by rw [q3]; exact fun h => by cases h) hslot e3.2.1 (by rw [q2, q3]; exact e3.2.2) rfl rfl hd fin1
  · exact va_Wputf hF.1 hF.2.1 hF.2.2.2.2.1 (hKw.use hl (by unfold sv_ok; exact Bool.or_true _)) (f := fd) hi2 hst e3.1 q1 (by rw [q3]; exact fun h => by cases h) hslot e3.2.1 (by rw [q2, q3]; exact e3.2.2) rfl rfl hd fin1
theorem sv_u_in {i : Nat} {j a : Int} (h : ∀ i j, sv_in (f i j)) (ha : sv_in a) : ∀ x y, sv_in (sv_u f i j a x y) := by
  intro x y
  unfold sv_u
  split
  · exact ha
  · exact h x y
theorem sv_putI {idx ci k i : Nat} {kz a : Int} {fin : Bool} (hw : sv_fl M.1.cls idx ci k fin) (hd : decode M.2.1 pc = .ok (.putfield idx, 3)) (hfin : fin = false ∨ (M.1.name = "<init>" ∧ ∃ q, vwCl[ci]? = some q ∧ q.1 = M.1.cls)) (hz : (k : Int) = kz) (ht : sv_ty ci k = .int) (hi : i < S.1) (hk : (S.2 i).1 = ci) (ha : sv_in a) (kk : sv_T X R M Z kc ks (pc + 3) ls st S (sv_u f i kz a) r g) : sv_T X R M Z kc ks pc ls (sv_i a :: sv_r i :: st) S f r g := by
  subst hz
  refine sv_fr fun hin => ?_
  exact sv_put0 hw hd hfin hi hk (v := sv_i a) (by rw [ht]; simp [sv_u, sv_fv, sv_cv]) (by rw [ht]; rfl) (by rw [ht]; rfl) (fun j h => sv_u_ne h) (fun _ _ => rfl) (fun _ _ => rfl) (fun j h => by simp [sv_u]; omega) (fun _ _ => rfl) (fun _ _ => rfl) (sv_u_in hin ha) kk
theorem sv_putL {idx ci k i : Nat} {kz : Int} {a : Int64} {fin : Bool} (hw : sv_fl M.1.cls idx ci k fin) (hd : decode M.2.1 pc = .ok (.putfield idx, 3)) (hfin : fin = false ∨ (M.1.name = "<init>" ∧ ∃ q, vwCl[ci]? = some q ∧ q.1 = M.1.cls)) (hz : (k : Int) = kz) (ht : sv_ty ci k = .long) (hi : i < S.1) (hk : (S.2 i).1 = ci) (kk : sv_T X R M Z kc ks (pc + 3) ls st S f r (sv_ug g i kz a)) : sv_T X R M Z kc ks pc ls (sv_l a :: sv_r i :: st) S f r g := by
  subst hz
  refine sv_fr fun hin => ?_
  exact sv_put0 hw hd hfin hi hk (v := sv_l a) (by rw [ht]; simp [sv_ug, sv_fv, sv_cv]) (by rw [ht]; rfl) (by rw [ht]; rfl) (fun _ _ => rfl) (fun _ _ => rfl) (fun j h => sv_ug_ne h) (fun _ _ => rfl) (fun _ _ => rfl) (fun j h => by simp [sv_ug]; omega) hin kk
theorem sv_putR {idx ci k i j : Nat} {kz : Int} {fin : Bool} (hw : sv_fl M.1.cls idx ci k fin) (hd : decode M.2.1 pc = .ok (.putfield idx, 3)) (hfin : fin = false ∨ (M.1.name = "<init>" ∧ ∃ q, vwCl[ci]? = some q ∧ q.1 = M.1.cls)) (hz : (k : Int) = kz) (ht : sv_isr (sv_ty ci k) = true) (hi : i < S.1) (hk : (S.2 i).1 = ci) (kk : sv_T X R M Z kc ks (pc + 3) ls st S f (sv_ur r i kz (some j)) g) : sv_T X R M Z kc ks pc ls (sv_r j :: sv_r i :: st) S f r g := by
  subst hz
  refine sv_fr fun hin => ?_
  refine sv_put0 hw hd hfin hi hk (v := sv_r j) (by rw [sv_fv_r ht]; simp [sv_ur, sv_cv]) ?_ ?_ (fun _ _ => rfl) (fun j h => sv_ur_ne h) (fun _ _ => rfl) (fun _ _ => rfl) (fun j h => by simp [sv_ur]; omega) (fun _ _ => rfl) hin kk
  · cases h9 : sv_ty ci k <;> first | rfl | (rw [h9] at ht; simp [sv_isr] at ht)
  · cases h9 : sv_ty ci k <;> first | rfl | (rw [h9] at ht; simp [sv_isr] at ht)
theorem sv_iald {i n : Nat} {j : Int} (hd : decode M.2.1 pc = .ok (.iaload, 1)) (hi : i < S.1) (hk : S.2 i = (6, n)) (hj : 0 ≤ j ∧ j < (n : Int)) (kk : sv_T X R M Z kc ks (pc + 1) ls (sv_i (f i j) :: st) S f r g) : sv_T X R M Z kc ks pc ls (sv_i j :: sv_r i :: st) S f r g := by
  intro p l e s m args below meth c H locs la hF hP hS hH
  have hkk := kk p l e s m args below meth c H locs la hF hP hS hH
  have hn : n ≤ 100000 := by have := hP.2.2.2 i; rw [hk] at this; exact this
  obtain ⟨v1, v2⟩ := sv_vp hj hn
  refine va_iald hF.1 hF.2.1 hF.2.2.2.2.2.2.2.1.2.1 hP.1 i 0 (by rw [sv_ws_get hi, hk, sv_e_int]) rfl v1 hd ?_
  rw [v2]
  exact hkk
theorem sv_aald {i n t j2 : Nat} {j : Int} (hd : decode M.2.1 pc = .ok (.aaload, 1)) (hi : i < S.1) (ht : t < 3) (hk : S.2 i = (8 + t, n)) (hj : 0 ≤ j ∧ j < (n : Int)) (hr : r i j = some j2) (kk : sv_T X R M Z kc ks (pc + 1) ls (sv_r j2 :: st) S f r g) : sv_T X R M Z kc ks pc ls (sv_i j :: sv_r i :: st) S f r g := by
  intro p l e s m args below meth c H locs la hF hP hS hH
  have hkk := kk p l e s m args below meth c H locs la hF hP hS hH
  have hn : n ≤ 100000 := by have := hP.2.2.2 i; rw [hk] at this; exact this
  obtain ⟨v1, v2⟩ := sv_vp hj hn
  have hK := hF.2.2.2.2.2.2.2.1.2.1
  have he : (sv_ws X S f r g)[i]? = some (X.1 + i, .inl (X.2.2.1 (2 + t), n, .inr (.inr (.inr (.inr (fun j => (r i (j : Int)).map (X.1 + ·))))))) := by rw [sv_ws_get hi, hk, sv_e_ref]
  obtain ⟨ty, hty, hre⟩ : ∃ ty : FieldType, (sv_tys X)[2 + t]? = some (X.2.2.1 (2 + t), ty) ∧ ty.isReference = true := by
    rcases (show t = 0 ∨ t = 1 ∨ t = 2 by omega) with rfl | rfl | rfl <;> exact ⟨_, rfl, rfl⟩
  have hlt : (Int32.ofInt j).toNatClampNeg < n := by omega
  refine W.aald (v := .ref (X.1 + j2)) (ty := ty) hF.1 hF.2.1 (hP.1 i _ he) ((hK.2 _ _ hty).1 n (fun j => va_rf ((r i (j : Int)).map (X.1 + ·)))) hre (fun q => by cases q) (by show ¬ (_ ∨ (arrV _ _ _).slots.size ≤ _); rw [arrV_size]; exact v1) (by show (arrV _ _ _).slots[_]? = _; rw [arrV_read _ _ hlt]; show some (va_rf (Option.map _ (r i ((Int32.ofInt j).toNatClampNeg : Int)))) = _; rw [v2, hr]; rfl) rfl rfl hd hkk
theorem sv_alen {i kd n : Nat} (hd : decode M.2.1 pc = .ok (.arraylength, 1)) (hi : i < S.1) (hk : S.2 i = (6 + kd, n)) (hkd : kd < 5) (kk : sv_T X R M Z kc ks (pc + 1) ls (sv_i n :: st) S f r g) : sv_T X R M Z kc ks pc ls (sv_r i :: st) S f r g := by
  intro p l e s m args below meth c H locs la hF hP hS hH
  have hkk := kk p l e s m args below meth c H locs la hF hP hS hH
  have he : ∃ z, (sv_ws X S f r g)[i]? = some (X.1 + i, .inl (X.2.2.1 kd, n, z)) := by
    rw [sv_ws_get hi, hk]
    unfold sv_e
    rw [if_neg (by show ¬ 6 + kd < 6; omega)]
    show ∃ z, some (X.1 + i, if 6 + kd < 8 then Sum.inl (X.2.2.1 (6 + kd - 6), n, _) else Sum.inl (X.2.2.1 (6 + kd - 6), n, _)) = _
    rw [show 6 + kd - 6 = kd by omega]
    split <;> exact ⟨_, rfl⟩
  obtain ⟨z, he⟩ := he
  obtain ⟨ty, hty⟩ : ∃ ty, (sv_tys X)[kd]? = some (X.2.2.1 kd, ty) := by
    rcases (show kd = 0 ∨ kd = 1 ∨ kd = 2 ∨ kd = 3 ∨ kd = 4 by omega) with rfl | rfl | rfl | rfl | rfl <;> exact ⟨_, rfl⟩
  exact va_alen hF.1 hF.2.1 hF.2.2.2.2.2.2.2.1.2.1 hP.1 i kd he hty (v := Int32.ofInt n) rfl hd hkk
theorem sv_iast {i n : Nat} {j a : Int} (hd : decode M.2.1 pc = .ok (.iastore, 1)) (hi : i < S.1) (hk : S.2 i = (6, n)) (hj : 0 ≤ j ∧ j < (n : Int)) (ha : sv_in a) (kk : sv_T X R M Z kc ks (pc + 1) ls st S (sv_u f i j a) r g) : sv_T X R M Z kc ks pc ls (sv_i a :: sv_i j :: sv_r i :: st) S f r g := by
  intro p l e s m args below meth c H locs la hF hP hS hH
  have hn : n ≤ 100000 := by have := hP.2.2.2 i; rw [hk] at this; exact this
  obtain ⟨v1, v2⟩ := sv_vp hj hn
  have hK := hF.2.2.2.2.2.2.2.1.2.1
  have he : (sv_ws X S f r g)[i]? = some (X.1 + i, .inl (X.2.2.1 0, n, .inl (fun j => Int32.ofInt (f i (j : Int))))) := by rw [sv_ws_get hi, hk, sv_e_int]
  have hcell := hP.1 i _ he
  refine W.iast hF.1 hF.2.1 hcell ((hK.2 0 _ rfl).1 n (fun j => .int (Int32.ofInt (f i (j : Int))))) (fun q => by cases q) (by show ¬ (_ ∨ (arrV _ _ _).slots.size ≤ _); rw [arrV_size]; exact v1) rfl rfl hd fun H1 e1 z1 o1 => ?_
  refine kk p l e s m args below meth c H1 _ la hF ⟨?_, by rw [z1]; exact hP.2.1, sv_u_in hP.2.2.1 ha, hP.2.2.2⟩ (hS.put z1 o1 (by show X.1 ≤ X.1 + i; omega)) hH
  have hset : (sv_ws X S f r g).set i (X.1 + i, .inl (X.2.2.1 0, n, .inl (fun k => Int32.ofInt (sv_u f i j a i (k : Int))))) = sv_ws X S (sv_u f i j a) r g := by
    refine sv_ws_set (fun _ => ?_) (fun j h => sv_u_ne h) (fun _ _ => rfl) (fun _ _ => rfl)
    rw [hk, sv_e_int]
  rw [← hset]
  refine hP.1.set sv_ws_D he ?_ o1
  show H1[X.1 + i]? = some (vp_cell _ _)
  rw [e1]
  rw [vp_cell_i, vp_cell_i, arrV_store]
  congr 2
  funext q
  by_cases hq : q = (Int32.ofInt j).toNatClampNeg
  · subst hq
    simp [updV, sv_u, v2]
    try rfl
  · have : ¬ ((q : Int) = j) := by omega
    simp [updV, sv_u, hq, this]
/-- storing one of our objects into an array of its class -/
theorem sv_aast {i n t ci j2 : Nat} {j : Int} (hd : decode M.2.1 pc = .ok (.aastore, 1)) (hi : i < S.1) (ht : t < 2) (hci : ci = t) (hk : S.2 i = (8 + t, n)) (hj : 0 ≤ j ∧ j < (n : Int)) (hj2 : j2 < S.1) (hk2 : (S.2 j2).1 = ci) (kk : sv_T X R M Z kc ks (pc + 1) ls st S f (sv_ur r i j (some j2)) g) : sv_T X R M Z kc ks pc ls (sv_r j2 :: sv_i j :: sv_r i :: st) S f r g := by
  intro p l e s m args below meth c H locs la hF hP hS hH
  have hn : n ≤ 100000 := by have := hP.2.2.2 i; rw [hk] at this; exact this
  obtain ⟨v1, v2⟩ := sv_vp hj hn
  have hK := hF.2.2.2.2.2.2.2.1.2.1
  have he : (sv_ws X S f r g)[i]? = some (X.1 + i, .inl (X.2.2.1 (2 + t), n, .inr (.inr (.inr (.inr (fun j => (r i (j : Int)).map (X.1 + ·))))))) := by rw [sv_ws_get hi, hk, sv_e_ref]
  have he2 : (sv_ws X S f r g)[j2]? = some (X.1 + j2, .inr (ci, sv_fs X.1 ci (f j2) (r j2) (g j2))) := by rw [sv_ws_get hj2, sv_e_obj hk2 (by omega)]
  obtain ⟨q, hty, hcq⟩ : ∃ q : vw_C, (sv_tys X)[2 + t]? = some (X.2.2.1 (2 + t), .object q.1) ∧ vwCl[ci]? = some q := by
    rcases (show t = 0 ∨ t = 1 by omega) with rfl | rfl <;> subst hci <;> exact ⟨_, rfl, rfl⟩
  have hlt : (Int32.ofInt j).toNatClampNeg < n := by omega
  have h0 : ¬ Int32.ofInt j < 0 := fun q => v1 (Or.inl q)
  have hcell := hP.1 i _ he
  obtain ⟨r', hr', cellV, g1, g2, g3, -⟩ := hP.1 j2 _ he2
  have hcls := (hK.1 ci q hcq).2
  obtain ⟨kA, comp, k1, k2, k3, -⟩ := (hK.2 _ _ hty).2
  have hcomp : comp = X.2.1.1 ci := Option.some.inj (k3.symm.trans hcls.1)
  subst hcomp
  obtain ⟨kC, hkC, -⟩ := hcls.2
  refine W.aast hF.1 hF.2.1 hcell (fun q h => by cases h) (fun h => by cases h) k1 k2 rfl hkC ⟨h0, by show _ < (arrV _ _ _).slots.size; rw [arrV_size]; exact hlt⟩ g1 (fun q h => by rw [g3] at h; cases h) (by rw [g2]; exact hkC) (by rw [g2]; exact va_assign hcls) rfl rfl hd fun H1 e1 z1 o1 => ?_
  refine kk p l e s m args below meth c H1 _ la hF ⟨?_, by rw [z1]; exact hP.2.1, hP.2.2.1, hP.2.2.2⟩ (hS.put z1 o1 (by show X.1 ≤ X.1 + i; omega)) hH
  have hset : (sv_ws X S f r g).set i (X.1 + i, .inl (X.2.2.1 (2 + t), n, .inr (.inr (.inr (.inr (fun k => (sv_ur r i j (some j2) i (k : Int)).map (X.1 + ·))))))) = sv_ws X S f (sv_ur r i j (some j2)) g := by
    refine sv_ws_set (fun _ => ?_) (fun _ _ => rfl) (fun j h => sv_ur_ne h) (fun _ _ => rfl)
    rw [hk, sv_e_ref]
  rw [← hset]
  refine hP.1.set sv_ws_D he ?_ o1
  show H1[X.1 + i]? = some (vp_cell _ _)
  rw [e1]
  rw [vp_cell_q, vp_cell_q, arrV_store]
  congr 2
  funext q
  by_cases hq : q = (Int32.ofInt j).toNatClampNeg
  · subst hq
    simp [updV, sv_ur, va_rf, v2]
  · have : ¬ ((q : Int) = j) := by omega
    simp [updV, sv_ur, hq, this]
end SVHEAP
