theorem sv_W.of {A : Array Value} {s : State} (hts : ∀ w ∈ lw_tbl, w.before A s = true) : sv_W s := by
  intro w hw ho
  have h0 := hts w hw
  have hW := State.WarmedH.refl s
  unfold sv_ok at ho
  rcases Bool.or_eq_true _ _ ▸ ho with h1 | h1
  · exact word_at hW (Or.inl h1) h0
  · cases w with
    | fieldLinkNest a i b n d h' => exact (va_Nw.warmF hW h0).use rfl
    | methodLinkNest a i x h' => exact (va_Nw.warmM hW h0).use rfl
    | arrayClass ty => exact word_at hW (Or.inr ⟨_, rfl⟩) h0
    | _ => simp at h1
theorem sv_arr {s : State} {A : Array Value} {ty : FieldType} (h : (Cond.arrayClass ty).before A s = true) : ∃ cA : ClassId, ArrOfT s cA ty ∧ s.vm.findClass ("[" ++ ty.toString) = some cA := by
  obtain ⟨c, k, comp, h1, h2, h3⟩ := Cond.arrayClass_spec h
  exact ⟨c, fun n z => ⟨fun q h => (by cases h), k, h2, comp, h3⟩, h1⟩
theorem sv_arrO {s : State} {A : Array Value} {C : String} (h : (Cond.arrayOver (.object C)).before A s = true) : ∃ cA : ClassId, ArrOfT s cA (.object C) ∧ va_RA s cA (.object C) := by
  obtain ⟨comp, c, k, h1, -, h3, h4, h5⟩ := Cond.arrayOver_spec h
  exact ⟨c, fun n z => ⟨fun q h => (by cases h), k, h3, comp, h4⟩, k, comp, h3, h4, h1, h5⟩
theorem sv_arrA {s : State} {A : Array Value} {t : FieldType} (h : (Cond.arrayOver (.array t)).before A s = true) : ∃ cA : ClassId, ArrOfT s cA (.array t) ∧ s.vm.findClass ("[" ++ (FieldType.array t).toString) = some cA := by
  obtain ⟨comp, c, k, h1, -, h3, h4, h5⟩ := arrayOverA_spec h
  exact ⟨c, fun n z => ⟨fun q h => (by cases h), k, h3, comp, h4⟩, h5⟩
def sv_tm (i : Nat) : Term := .string "StateVault$Script" (sv_txt i).1
set_option maxRecDepth 100000 in
set_option maxHeartbeats 4000000 in
theorem sv_strs {s : State} {A : Array Value} {B : Nat → Prop} (hgv : (Jvm.Cond.and given_1 narrow_1).before A s = true) (hA : ∀ a : Nat, a < s.heap.size → ¬ B a) : ∃ adK adV : Nat → Nat, vk_S 5 sv_lens sv_byts adK adV B s s.heap ∧ ∀ i : Nat, i < 5 → (sv_tm i).eval A s none [] s = some (.ref (adK i)) := by
  have hs := flat_of_before _ hgv
  refine vk_Sof (tm := sv_tm) (len := sv_lens) (byt := sv_byts) (fun i hi => ?_) (fun i hi => ?_) (fun i hi => ?_) (fun i hi => ?_) (fun i hi => ?_) (fun i hi j hj => ?_) (fun i j hi hj hij => ?_) hA
  · rcases (show i = 0 ∨ i = 1 ∨ i = 2 ∨ i = 3 ∨ i = 4 by omega) with rfl | rfl | rfl | rfl | rfl <;> decide
  · rcases (show i = 0 ∨ i = 1 ∨ i = 2 ∨ i = 3 ∨ i = 4 by omega) with rfl | rfl | rfl | rfl | rfl
    · exact hs _ (by decide +kernel)
    · exact hs _ (by decide +kernel)
    · exact hs _ (by decide +kernel)
    · exact hs _ (by decide +kernel)
    · exact hs _ (by decide +kernel)
  · rcases (show i = 0 ∨ i = 1 ∨ i = 2 ∨ i = 3 ∨ i = 4 by omega) with rfl | rfl | rfl | rfl | rfl
    · exact hs _ (by decide +kernel)
    · exact hs _ (by decide +kernel)
    · exact hs _ (by decide +kernel)
    · exact hs _ (by decide +kernel)
    · exact hs _ (by decide +kernel)
  · rcases (show i = 0 ∨ i = 1 ∨ i = 2 ∨ i = 3 ∨ i = 4 by omega) with rfl | rfl | rfl | rfl | rfl
    · exact hs _ (by decide +kernel)
    · exact hs _ (by decide +kernel)
    · exact hs _ (by decide +kernel)
    · exact hs _ (by decide +kernel)
    · exact hs _ (by decide +kernel)
  · rcases (show i = 0 ∨ i = 1 ∨ i = 2 ∨ i = 3 ∨ i = 4 by omega) with rfl | rfl | rfl | rfl | rfl
    · exact hs _ (by decide +kernel)
    · exact hs _ (by decide +kernel)
    · exact hs _ (by decide +kernel)
    · exact hs _ (by decide +kernel)
    · exact hs _ (by decide +kernel)
  · rcases (show i = 0 ∨ i = 1 ∨ i = 2 ∨ i = 3 ∨ i = 4 by omega) with rfl | rfl | rfl | rfl | rfl
    · rcases (show j = 0 ∨ j = 1 ∨ j = 2 by have : j < 3 := hj; omega) with rfl | rfl | rfl
      · exact hs _ (by decide +kernel)
      · exact hs _ (by decide +kernel)
      · exact hs _ (by decide +kernel)
    · rcases (show j = 0 ∨ j = 1 ∨ j = 2 by have : j < 3 := hj; omega) with rfl | rfl | rfl
      · exact hs _ (by decide +kernel)
      · exact hs _ (by decide +kernel)
      · exact hs _ (by decide +kernel)
    · rcases (show j = 0 ∨ j = 1 ∨ j = 2 ∨ j = 3 by have : j < 4 := hj; omega) with rfl | rfl | rfl | rfl
      · exact hs _ (by decide +kernel)
      · exact hs _ (by decide +kernel)
      · exact hs _ (by decide +kernel)
      · exact hs _ (by decide +kernel)
    · rcases (show j = 0 ∨ j = 1 ∨ j = 2 ∨ j = 3 by have : j < 4 := hj; omega) with rfl | rfl | rfl | rfl
      · exact hs _ (by decide +kernel)
      · exact hs _ (by decide +kernel)
      · exact hs _ (by decide +kernel)
      · exact hs _ (by decide +kernel)
    · rcases (show j = 0 ∨ j = 1 ∨ j = 2 ∨ j = 3 by have : j < 4 := hj; omega) with rfl | rfl | rfl | rfl
      · exact hs _ (by decide +kernel)
      · exact hs _ (by decide +kernel)
      · exact hs _ (by decide +kernel)
      · exact hs _ (by decide +kernel)
  · have key : ∀ i j : Nat, i < j → j < 5 → (Cond.not (Cond.eq (sv_tm i) (sv_tm j))).before A s = true := by
      intro i j h1 h2
      rcases (show (i = 0 ∧ j = 1) ∨ (i = 0 ∧ j = 2) ∨ (i = 0 ∧ j = 3) ∨ (i = 0 ∧ j = 4) ∨ (i = 1 ∧ j = 2) ∨ (i = 1 ∧ j = 3) ∨ (i = 1 ∧ j = 4) ∨ (i = 2 ∧ j = 3) ∨ (i = 2 ∧ j = 4) ∨ (i = 3 ∧ j = 4) by omega) with ⟨rfl, rfl⟩ | ⟨rfl, rfl⟩ | ⟨rfl, rfl⟩ | ⟨rfl, rfl⟩ | ⟨rfl, rfl⟩ | ⟨rfl, rfl⟩ | ⟨rfl, rfl⟩ | ⟨rfl, rfl⟩ | ⟨rfl, rfl⟩ | ⟨rfl, rfl⟩
      · exact hs _ (by decide +kernel)
      · exact hs _ (by decide +kernel)
      · exact hs _ (by decide +kernel)
      · exact hs _ (by decide +kernel)
      · exact hs _ (by decide +kernel)
      · exact hs _ (by decide +kernel)
      · exact hs _ (by decide +kernel)
      · exact hs _ (by decide +kernel)
      · exact hs _ (by decide +kernel)
      · exact hs _ (by decide +kernel)
    by_cases h : i < j
    · exact Or.inl (key i j h hj)
    · exact Or.inr (key j i (by omega) hi)
set_option maxRecDepth 100000 in
set_option maxHeartbeats 4000000 in
/-- THE LAW, from its entry -/
theorem whole_start {p : Program} {e : Env} {s : State} {m : MethodId} {below : List Frame} {meth : Method} {c : Code} (l : Launch) (hflags : l.flags = flags0) (hname : meth.name = "law") {b L : Nat} {xs : Nat → Int32} (hL : L ≤ 260) (C0 : lw_At p s m meth c b L xs) : W p l e room_1 s m #[Value.ref b] below meth c s.heap [] 0 0 (lw_Z below #[Value.ref b] s) (entryFrame m ([Value.ref b] : List Value).toArray 10) := by
  obtain ⟨hx, hb, hr, hml, hown, hts, hXs, hbl, hlocks, hgv⟩ := C0
  have hs := flat_of_before _ hgv
  obtain ⟨c0, i0, hK0⟩ := u_known (C := RX0) (T := TX0) (N := 7) (n := 7) hts inX0 (hts (.instantiable RX0 7) (List.mem_of_getElem? (i := 76) (by decide +kernel)))
  obtain ⟨c1, i1, hK1⟩ := u_known (C := RX1) (T := TX1) (N := 7) (n := 7) hts inX1 (hts (.instantiable RX1 7) (List.mem_of_getElem? (i := 69) (by decide +kernel)))
  obtain ⟨c2, i2, hK2⟩ := u_known (C := RX2) (T := TX2) (N := 2) (n := 2) hts inX2 (hts (.instantiable RX2 2) (List.mem_of_getElem? (i := 180) (by decide +kernel)))
  obtain ⟨c3, i3, hK3⟩ := u_known (C := RX3) (T := TX3) (N := 6) (n := 6) hts inX3 (hts (.instantiable RX3 6) (List.mem_of_getElem? (i := 152) (by decide +kernel)))
  obtain ⟨c4, i4, hK4⟩ := u_known (C := RX4) (T := TX4) (N := 7) (n := 7) hts inX4 (hts (.instantiable RX4 7) (List.mem_of_getElem? (i := 61) (by decide +kernel)))
  obtain ⟨a0, hA0, hN0⟩ := sv_arr (hts (.arrayClass .int) sv_arI)
  have w2 := hts (.arrayOver (.object "StateVault$Kept")) (List.mem_of_getElem? (i := 75) (by decide +kernel))
  have w3 := hts (.arrayOver (.object "StateVault$Moment")) (List.mem_of_getElem? (i := 150) (by decide +kernel))
  have w4 := hts (.arrayOver (.array .int)) (List.mem_of_getElem? (i := 186) (by decide +kernel))
  obtain ⟨a2, hA2, hN2⟩ := sv_arrO w2
  obtain ⟨a3, hA3, hN3⟩ := sv_arrO w3
  obtain ⟨a4, hA4, hN4⟩ := sv_arrA w4
  have hB : ∀ a : Nat, a < s.heap.size → ¬ (fun q : Nat => s.heap.size ≤ q) a := fun a h => Nat.not_le.mpr h
  obtain ⟨adK, adV, hS, hT⟩ := sv_strs hgv hB
  let dC : Nat → ClassId := fun k => match k with
    | 0 => c0
    | 1 => c1
    | 2 => c2
    | 3 => c3
    | _ => c4
  let dI : Nat → Nat → Nat := fun k => match k with
    | 0 => i0
    | 1 => i1
    | 2 => i2
    | 3 => i3
    | _ => i4
  let cy : Nat → ClassId := fun k => match k with
    | 0 => a0
    | 1 => a0
    | 2 => a2
    | 3 => a3
    | _ => a4
  let X : sv_X := (s.heap.size, (dC, dI), cy, (b, L, xs), adK, adV)
  have hKc : ∀ (k : Nat) (q : vw_C), vwCl[k]? = some q → u_Kn s q.1 q.2.1 q.2.2 (dC k) (dI k) := by
    intro k q hq
    rcases k with _ | _ | _ | _ | _ | k
    · cases hq; exact hK0
    · cases hq; exact hK1
    · cases hq; exact hK2
    · cases hq; exact hK3
    · cases hq; exact hK4
    · simp [vwCl] at hq
  have hKt : ∀ (k : Nat) (q : ClassId × FieldType), (sv_tys X)[k]? = some q → ArrOfT s q.1 q.2 ∧ va_RA s q.1 q.2 := by
    intro k q hq
    rcases k with _ | _ | _ | _ | _ | k
    · cases hq; exact ⟨hA0, hN0⟩
    · cases hq; exact ⟨hA0, hN0⟩
    · cases hq; exact ⟨hA2, hN2⟩
    · cases hq; exact ⟨hA3, hN3⟩
    · cases hq; exact ⟨hA4, hN4⟩
    · simp [sv_tys] at hq
  have hR : ∀ i, i < 5 → vk_R "StateVault$Script" (sv_txt i).1 (sv_txt i).2 (adK i) s := by
    intro i hi
    refine vk_R.of ?_ (hT i hi)
    rcases (show i = 0 ∨ i = 1 ∨ i = 2 ∨ i = 3 ∨ i = 4 by omega) with rfl | rfl | rfl | rfl | rfl
    · exact hts (.stringRef "StateVault$Script" 95 "set") (List.mem_of_getElem? (i := 468) (by decide +kernel))
    · exact hts (.stringRef "StateVault$Script" 101 "add") (List.mem_of_getElem? (i := 521) (by decide +kernel))
    · exact hts (.stringRef "StateVault$Script" 103 "swap") (List.mem_of_getElem? (i := 522) (by decide +kernel))
    · exact hts (.stringRef "StateVault$Script" 105 "fill") (List.mem_of_getElem? (i := 523) (by decide +kernel))
    · exact hts (.stringRef "StateVault$Script" 107 "turn") (List.mem_of_getElem? (i := 524) (by decide +kernel))
  have hO : sv_O X s s.heap := ⟨⟨hXs, hbl, Nat.le_trans hL (by decide), hbl⟩, hS, hR, va_Zof (hts (.laysStatic "java/lang/String" "COMPACT_STRINGS" "Z") (List.mem_of_getElem? (i := 482) (by decide +kernel))) (hts (.initialized "java/lang/String") (List.mem_of_getElem? (i := 56) (by decide +kernel))) (va_eqi (hs _ (by decide +kernel))) hB, va_Zqof (hts (.laysStatic "jdk/internal/util/Preconditions" "SIOOBE_FORMATTER" "Ljava/util/function/BiFunction;") (List.mem_of_getElem? (i := 498) (by decide +kernel))) (hts (.initialized "jdk/internal/util/Preconditions") (List.mem_of_getElem? (i := 58) (by decide +kernel))) (hs _ (by decide +kernel)) hB⟩
  have hKK : sv_K X s s.heap := ⟨sv_W.of hts, ⟨hKc, hKt⟩, hO, va_AO.of w2, va_AO.of w3, w4⟩
  have hF : sv_Fx X sv_ML p s m meth c := ⟨hx, hb, hr, hml, hown, hlocks, hname, hKK, Nat.le_refl _⟩
  have hP : sv_P X ((0, fun _ => (0, 0)) : sv_S) (fun _ _ => 0) (fun _ _ => none) (fun _ _ => 0) s.heap := by
    refine ⟨fun k q h => ?_, rfl, fun i j => ?_, fun i => ?_⟩
    · rw [sv_ws_none (Nat.not_lt_zero k)] at h; exact nomatch h
    · exact (by decide : sv_in 0)
    · exact Nat.zero_le _
  have hle := lv_entry ([.ref b]) (n := 10) (Nat.le_of_ble_eq_true rfl)
  rw [lg_entry_eq]
  generalize (lg_sl ([.ref b]) ++ List.replicate (10 - (lg_sl ([.ref b])).length) Slot.unset).toArray = la at hle ⊢
  have hle : lv_has la 10 [(0, .ref b)] := hle
  have hH : sv_H X.1 la 10 [some (sv_w X.2.2.2.1.1), none, none, none, none, none, none, none, none, none] := sv_H_of hle fun q hq => by
    obtain ⟨v, h1, h2⟩ := sv_ps_mem.mp hq
    obtain ⟨q1, q2⟩ := q
    match q1, h1, h2 with
    | 0, h1, h2 => cases h1; cases h2; exact List.mem_cons_self
    | 1, h1, h2 => cases h1
    | 2, h1, h2 => cases h1
    | 3, h1, h2 => cases h1
    | 4, h1, h2 => cases h1
    | 5, h1, h2 => cases h1
    | 6, h1, h2 => cases h1
    | 7, h1, h2 => cases h1
    | 8, h1, h2 => cases h1
    | 9, h1, h2 => cases h1
    | k + 10, h1, h2 => simp at h1
  have hgo := sv_begin (X := X) (Nat.le_trans hL (by decide)) p l e s m #[Value.ref b] below meth c s.heap [] la hF hP va_S.rf hH
  intro T hT X0
  obtain ⟨t, g1, g2⟩ := hgo T hT X0
  exact ⟨t, g1, g2 (Nat.le_refl _)⟩
