/-! the two objects' cells by places: the place i is the address (base + i) -/
abbrev sv_V : Type := Int ⊕ Option Nat ⊕ (Int64 ⊕ Nat)
abbrev sv_F : Type := Nat → Int → Int
abbrev sv_R : Type := Nat → Int → Option Nat
abbrev sv_G : Type := Nat → Int → Int64
abbrev sv_S : Type := Nat × (Nat → Nat × Nat)
/-- base; the classes' table; the arrays' classes; the script: address, length, ints; the five texts' addresses and their bytes' -/
abbrev sv_X : Type := Nat × va_G × (Nat → ClassId) × (Nat × Nat × (Nat → Int32)) × (Nat → Nat) × (Nat → Nat)
abbrev sv_M : Type := MethodName × ByteArray × Nat × Option FieldType
abbrev sv_L : Type := List (Option sv_V)
abbrev sv_in (a : Int) : Prop := -2147483648 ≤ a ∧ a ≤ 2147483647
abbrev sv_i (a : Int) : sv_V := .inl a
abbrev sv_r (i : Nat) : sv_V := .inr (.inl (some i))
abbrev sv_n : sv_V := .inr (.inl none)
abbrev sv_l (x : Int64) : sv_V := .inr (.inr (.inl x))
abbrev sv_w (a : Nat) : sv_V := .inr (.inr (.inr a))
def sv_cv (b : Nat) (v : sv_V) : Value := match v with
  | .inl a => .int (Int32.ofInt a)
  | .inr (.inl o) => va_rf (o.map (b + ·))
  | .inr (.inr (.inl x)) => .long x
  | .inr (.inr (.inr a)) => .ref a
def sv_ty (ci k : Nat) : FieldType := match ci with
  | 0 => tyX0 k
  | 1 => tyX1 k
  | 2 => tyX2 k
  | 3 => tyX3 k
  | 4 => tyX4 k
  | _ => tyX5 k
def sv_cn (ci : Nat) : Nat := match ci with
  | 0 => 7
  | 1 => 7
  | 2 => 2
  | 3 => 6
  | 4 => 7
  | _ => 0
def sv_fv (b : Nat) (ty : FieldType) (a : Int) (o : Option Nat) (x : Int64) : Value := match ty with
  | .int => .int (Int32.ofInt a)
  | .long => .long x
  | _ => va_rf (o.map (b + ·))
def sv_fs (b ci : Nat) (fi : Int → Int) (ri : Int → Option Nat) (gi : Int → Int64) : List Value := (List.range (sv_cn ci)).map (fun k => sv_fv b (sv_ty ci k) (fi k) (ri k) (gi k))
def sv_e (X : sv_X) (kn : Nat × Nat) (fi : Int → Int) (ri : Int → Option Nat) (gi : Int → Int64) : va_E :=
  if kn.1 < 6 then .inr (kn.1, sv_fs X.1 kn.1 fi ri gi)
  else if kn.1 < 8 then .inl (X.2.2.1 (kn.1 - 6), kn.2, .inl (fun j => Int32.ofInt (fi (j : Int))))
  else .inl (X.2.2.1 (kn.1 - 6), kn.2, .inr (.inr (.inr (.inr (fun j => (ri (j : Int)).map (X.1 + ·))))))
def sv_tys (X : sv_X) : List (ClassId × FieldType) := [(X.2.2.1 0, .int), (X.2.2.1 1, .int), (X.2.2.1 2, .object "StateVault$Kept"), (X.2.2.1 3, .object "StateVault$Moment"), (X.2.2.1 4, .array .int)]
def sv_ws (X : sv_X) (S : sv_S) (f : sv_F) (r : sv_R) (g : sv_G) : va_W := (List.range S.1).map (fun i => (X.1 + i, sv_e X (S.2 i) (f i) (r i) (g i)))
theorem sv_ws_get {X : sv_X} {S : sv_S} {f : sv_F} {r : sv_R} {g : sv_G} {i : Nat} (h : i < S.1) : (sv_ws X S f r g)[i]? = some (X.1 + i, sv_e X (S.2 i) (f i) (r i) (g i)) := by
  simp [sv_ws, List.getElem?_map, List.getElem?_range h]
theorem sv_ws_none {X : sv_X} {S : sv_S} {f : sv_F} {r : sv_R} {g : sv_G} {i : Nat} (h : ¬ i < S.1) : (sv_ws X S f r g)[i]? = none := by
  simp [sv_ws]; omega
theorem sv_ws_len {X : sv_X} {S : sv_S} {f : sv_F} {r : sv_R} {g : sv_G} : (sv_ws X S f r g).length = S.1 := by simp [sv_ws]
theorem sv_ws_set {X : sv_X} {S : sv_S} {f f' : sv_F} {r r' : sv_R} {g g' : sv_G} {i : Nat} {e : va_E} (he : i < S.1 → e = sv_e X (S.2 i) (f' i) (r' i) (g' i)) (hf : ∀ j, j ≠ i → f' j = f j) (hr : ∀ j, j ≠ i → r' j = r j) (hg : ∀ j, j ≠ i → g' j = g j) :
    (sv_ws X S f r g).set i (X.1 + i, e) = sv_ws X S f' r' g' := by
  apply List.ext_getElem?
  intro j
  by_cases hj : j < S.1
  · by_cases hij : j = i
    · subst hij
      rw [List.getElem?_set_self (by rw [sv_ws_len]; exact hj), sv_ws_get hj, he hj]
    · rw [List.getElem?_set_ne (Ne.symm hij), sv_ws_get hj, sv_ws_get hj, hf j hij, hr j hij, hg j hij]
  · rw [sv_ws_none hj, List.getElem?_eq_none (by rw [List.length_set, sv_ws_len]; omega)]
theorem sv_ws_D {X : sv_X} {S : sv_S} {f : sv_F} {r : sv_R} {g : sv_G} : va_D (fun q : Nat => X.1 ≤ q) (sv_ws X S f r g) := by
  have key : ∀ (k : Nat) (q : Nat × va_E), (sv_ws X S f r g)[k]? = some q → q.1 = X.1 + k := by
    intro k q h
    by_cases hk : k < S.1
    · rw [sv_ws_get hk] at h
      rw [← Option.some.inj h]
    · rw [sv_ws_none hk] at h
      cases h
  refine ⟨fun i j p q hi hj hpq => ?_, fun k q h => ?_⟩
  · have h1 := key i p hi
    have h2 := key j q hj
    omega
  · have h1 := key k q h
    show X.1 ≤ q.1
    omega
/-- the heap holds the cells -/
def sv_P (X : sv_X) (S : sv_S) (f : sv_F) (r : sv_R) (g : sv_G) (H : Heap) : Prop := va_P X.2.1 vwCl (sv_ws X S f r g) H ∧ H.size = X.1 + S.1 ∧ (∀ i j, sv_in (f i j)) ∧ ∀ i, (S.2 i).2 ≤ 100000
def sv_lens : List Nat := [3, 3, 4, 4, 4]
def sv_byts : List (List Int32) := [[115, 101, 116], [97, 100, 100], [115, 119, 97, 112], [102, 105, 108, 108], [116, 117, 114, 110]]
def sv_txt (i : Nat) : Nat × String := match i with
  | 0 => (95, "set")
  | 1 => (101, "add")
  | 2 => (103, "swap")
  | 3 => (105, "fill")
  | _ => (107, "turn")
/-- what lies below the base and stays -/
def sv_O (X : sv_X) (U : State) (H : Heap) : Prop := (va_X X.2.2.2.1.1 X.2.2.2.1.2.1 X.2.2.2.1.2.2 U H ∧ X.2.2.2.1.1 < X.1 ∧ X.2.2.2.1.2.1 ≤ 2048 ∧ X.2.2.2.1.1 < H.size) ∧ vk_S 5 sv_lens sv_byts X.2.2.2.2.1 X.2.2.2.2.2 (fun q => X.1 ≤ q) U H ∧ (∀ i, i < 5 → vk_R "StateVault$Script" (sv_txt i).1 (sv_txt i).2 (X.2.2.2.2.1 i) U) ∧ va_Z "java/lang/String" "COMPACT_STRINGS" "Z" (.int 1) (fun q => X.1 ≤ q) U H ∧ va_Zq "jdk/internal/util/Preconditions" "SIOOBE_FORMATTER" "Ljava/util/function/BiFunction;" (fun q => X.1 ≤ q) U H
def sv_ok (w : Cond) : Bool := (w.onTables && w.keeps) || match w with
  | .fieldLinkNest _ _ _ _ _ _ => true
  | .methodLinkNest _ _ _ _ => true
  | .arrayClass _ => true
  | _ => false
def sv_W (U : State) : Prop := ∀ w ∈ lw_tbl, sv_ok w = true → w.before #[] U = true
theorem sv_W.go {s U : State} (h : sv_W s) (hW : s.WarmedH U.vm) {A : Array Value} {w : Cond} (hw : w ∈ lw_tbl) (ho : sv_ok w = true) : w.before A U = true := by
  have h0 := h w hw ho
  unfold sv_ok at ho
  rcases Bool.or_eq_true _ _ ▸ ho with h1 | h1
  · exact word_at hW (Or.inl h1) h0
  · cases w with
    | fieldLinkNest a i b n d h' => exact (va_Nw.warmF hW h0).use rfl
    | methodLinkNest a i x h' => exact (va_Nw.warmM hW h0).use rfl
    | arrayClass ty => exact word_at hW (Or.inr ⟨_, rfl⟩) h0
    | _ => simp at h1
theorem sv_W.use {s : State} (h : sv_W s) {A : Array Value} {w : Cond} (hw : w ∈ lw_tbl) (ho : sv_ok w = true) : w.before A s = true := h.go (State.WarmedH.refl s) hw ho
theorem sv_W.moved {s U : State} (h : sv_W s) (hW : s.WarmedH U.vm) : sv_W U := fun _ hw ho => h.go hW hw ho
theorem sv_O.kept {X : sv_X} {U : State} {H H1 : Heap} (h : sv_O X U H) (hz : H.size ≤ H1.size) (hq : ∀ a : Nat, a < H.size → ¬ X.1 ≤ a → H1[a]? = H[a]?) : sv_O X U H1 := by
  obtain ⟨⟨h1, h2, h3, h4⟩, h5, h6, h7, h8⟩ := h
  exact ⟨⟨h1.kept (hq _ h4 (by omega)), h2, h3, by omega⟩, h5.kept hq, h6, h7.kept hq, h8.kept hq⟩
theorem sv_O.moved {X : sv_X} {s U : State} {H : Heap} (h : sv_O X s H) (hW : s.WarmedH U.vm) : sv_O X U H := by
  obtain ⟨⟨h1, h2, h3, h4⟩, h5, h6, h7, h8⟩ := h
  exact ⟨⟨h1.moved hW.alike, h2, h3, h4⟩, h5.moved hW.alike, fun i hi => (h6 i hi).warm hW, h7.moved hW.alike, h8.moved hW.alike⟩
/-- what every method is told of the machine -/
def sv_K (X : sv_X) (U : State) (H : Heap) : Prop := sv_W U ∧ va_K X.2.1 vwCl (sv_tys X) U ∧ sv_O X U H ∧ va_AO "StateVault$Kept" U ∧ va_AO "StateVault$Moment" U ∧ (Cond.arrayOver (.array .int)).before #[] U = true
theorem sv_K.moved {X : sv_X} {s U : State} {H : Heap} (h : sv_K X s H) (hW : s.WarmedH U.vm) : sv_K X U H := ⟨h.1.moved hW, h.2.1.moved hW.alike, h.2.2.1.moved hW, h.2.2.2.1.moved hW.alike, h.2.2.2.2.1.moved hW.alike, over_moved hW.alike h.2.2.2.2.2⟩
theorem sv_K.kept {X : sv_X} {s : State} {H H1 : Heap} (h : sv_K X s H) (hz : H.size ≤ H1.size) (hq : ∀ a : Nat, a < H.size → ¬ X.1 ≤ a → H1[a]? = H[a]?) : sv_K X s H1 := ⟨h.1, h.2.1, h.2.2.1.kept hz hq, h.2.2.2⟩
/-- the locals -/
def sv_H (b : Nat) (la : Array Slot) (nL : Nat) (ls : sv_L) : Prop := la.size = nL ∧ lv_wf la ∧ ∀ (i : Nat) (v : sv_V), ls[i]? = some (some v) → la[i]? = some (.val (sv_cv b v))
def sv_Fx (X : sv_X) (M : sv_M) (p : Program) (s : State) (m : MethodId) (meth : Method) (c : Code) : Prop := p.tables.exec = Jvm.exec ∧ c.code = M.2.1 ∧ meth.sig.returnType = M.2.2.2 ∧ c.maxLocals = M.2.2.1 ∧ s.vm.findClass M.1.cls = some m.cls ∧ meth.locks = false ∧ meth.name = M.1.name ∧ sv_K X s s.heap ∧ X.1 ≤ s.heap.size
abbrev sv_Z : Type := List Frame → Array Value → State → State → Prop
def sv_T (X : sv_X) (R : Room) (M : sv_M) (Z : sv_Z) (kc ks : Nat) (pc : Nat) (ls : sv_L) (st : List sv_V) (S : sv_S) (f : sv_F) (r : sv_R) (g : sv_G) : Prop :=
  ∀ (p : Program) (l : Launch) (e : Env) (s : State) (m : MethodId) (args : Array Value) (below : List Frame) (meth : Method) (c : Code) (H : Heap) (locs : List Loc) (la : Array Slot), sv_Fx X M p s m meth c → sv_P X S f r g H → va_S (fun q => X.1 ≤ q) s.heap H locs → sv_H X.1 la M.2.2.1 ls →
    W p l e R s m args below meth c H locs kc ks (Z below args s) (F0 m pc la (st.map (sv_cv X.1)))
