/-! THE CLAIM OUT OF ONE WALK OF THE LAW'S BODY. Your part is whole_start (and what it stands on); all else here is the same for every law, but numbers. -/
def R_law : String := "StateVaultLaw"
def lw_P (b : Addr) (xs : List Int32) (args : Array Value) (s : State) : Prop := args = #[.ref b] ∧ s.IntsAt b xs ∧ xs.length ≤ 260 ∧ (Jvm.Cond.and given_1 narrow_1).before args s = true
def lw_Q (_ : Array Value) (s : State) (o : Outcome) (t : State) : Prop := o = .returned (some (.int 1)) ∧ Framed s o t [] 600000 7302250
def lw_Z (below : List Frame) (a : Array Value) (s : State) : State → Prop := fun t => ∃ o, t.status = .running ∧ Ended t below o ∧ lw_Q a s o t
/-- the law's own end, with 1 on the stack, nothing written that was there before, its room as the claim has it -/
theorem lw_ret {p : Program} {l : Launch} {e : Env} {s : State} {m : MethodId} {below : List Frame} {meth : Method} {c : Code} {b : Nat} (hx : p.tables.exec = Jvm.exec) (hb : c.code = code) (hr : meth.sig.returnType = ret) (hlocks : meth.locks = false) {pc : Nat} {H : Heap} {ls : Array Slot} (hdg : decode code pc = .ok (.ireturn, 1)) : W p l e room_1 s m #[Value.ref b] below meth c H [] 600000 7302250 (lw_Z below #[Value.ref b] s) (F0 m pc ls [.int 1]) := by
  intro T hT X
  obtain ⟨fs, hret, hrun, hended, hW, hframe⟩ := X.leave (v := some (.int 1)) (hlocks := hlocks) (fun h => by rw [hr] at h; cases h)
  have hmeth' : T.vm.method? m = some meth := X.method'
  refine ⟨T.setFrames fs, ?_, .returned (some (.int 1)), hrun, hended, rfl, ⟨_, rfl⟩, hW, hframe⟩
  jvm_step X.here [X.here.top, hx, hb, hdg, hmeth', hr, ret, narrow_b1]
  (try refine ⟨rfl, ?_⟩); (try refine ⟨rfl, ?_⟩)
  first | (intro acts; rw [hret _ acts rfl rfl rfl]) | rw [hret _ _ rfl rfl rfl]
  exact Steps.refl _
/-- what holds at the law's entry: the machine, the code, the tables' words (any of lw_tbl by 'hts w (by decide +kernel)'), the script of L ints xs at the cell b, what the Statement gives of the start (any of its parts by flat_of_before) -/
def lw_At (p : Program) (s : State) (m : MethodId) (meth : Method) (c : Code) (b L : Nat) (xs : Nat → Int32) : Prop :=
  p.tables.exec = Jvm.exec ∧ c.code = code ∧ meth.sig.returnType = ret ∧ c.maxLocals = 10 ∧ s.vm.findClass R_law = some m.cls ∧ (∀ w ∈ lw_tbl, w.before #[Value.ref b] s = true) ∧ va_X b L xs s s.heap ∧ b < s.heap.size ∧ meth.locks = false ∧ (Jvm.Cond.and given_1 narrow_1).before #[Value.ref b] s = true
abbrev sv_ML : sv_M := (yL_law, cL_law, 10, some .boolean)
def sv_Zl (X : sv_X) : sv_Z := fun below args s t => s.heap.size ≤ X.1 → lw_Z below args s t
section SVLAW
variable {X : sv_X} {kc ks pc : Nat} {ls : sv_L} {st : List sv_V} {S : sv_S} {f : sv_F} {r : sv_R} {g : sv_G}
theorem sv_lret (hd : decode cL_law pc = .ok (.ireturn, 1)) (hc : kc ≤ 600000 ∧ ks ≤ 7302250) : sv_T X room_1 sv_ML (sv_Zl X) kc ks pc ls [sv_i 1] S f r g := by
  intro p l e s m args below meth c H locs la hF hP hS hH
  by_cases h : s.heap.size ≤ X.1
  · refine va_forget (fun q hq => Nat.le_trans h (hS.2.2 q hq)) ?_
    refine W.widen (k := 600000) (n := 7302250) hc.1 hc.2 ?_
    have hx := hF.1
    have hb := hF.2.1
    have hr : meth.sig.returnType = ret := hF.2.2.1
    have hlocks := hF.2.2.2.2.2.1
    intro T hT X0
    obtain ⟨fs, hret, hrun, hended, hW, hframe⟩ := X0.leave (v := some (.int 1)) (hlocks := hlocks) (fun h => by rw [hr] at h; cases h)
    have hmeth' : T.vm.method? m = some meth := X0.method'
    refine ⟨T.setFrames fs, ?_, fun _ => ⟨.returned (some (.int 1)), hrun, hended, rfl, ⟨_, rfl⟩, hW, hframe⟩⟩
    have hdg : decode code pc = .ok (.ireturn, 1) := hd
    have hb' : c.code = code := hb
    show Steps p.tables e below (T.setTop (F0 m pc la [.int 1])) _
    jvm_step X0.here [X0.here.top, hx, hb', hdg, hmeth', hr, ret, narrow_b1]
    (try refine ⟨rfl, ?_⟩); (try refine ⟨rfl, ?_⟩)
    first | (intro acts; rw [hret _ acts rfl rfl rfl]) | rw [hret _ _ rfl rfl rfl]
    exact Steps.refl _
  · intro T hT X0
    exact ⟨_, Steps.refl _, fun h' => absurd h' h⟩
end SVLAW
/-- the first game -/
def sp_m0 : Int → Int := fun j => if j = 582 then 1 else if j = 595 then -1 else if j = 596 then 4 else if j = 597 then 1 else 0
theorem sp_m0_ok : sp_wt sp_m0 ∧ sp_wg sp_m0 := by
  have h0 : sp_m0 580 = 0 := rfl
  have h2 : sp_m0 582 = 1 := rfl
  refine ⟨⟨by decide, by decide, fun s a b => by omega, fun s t a b c => by omega, fun s a b => by omega, fun s a b => by omega, fun s t a b => by omega⟩, by decide, ?_, Or.inl rfl, by decide, by decide⟩
  intro j a b
  rw [h2] at b
  show 0 ≤ sp_m0 (583 + j) ∧ sp_m0 (583 + j) ≤ 99
  unfold sp_m0
  rw [if_neg (by omega), if_neg (by omega), if_neg (by omega), if_neg (by omega)]
  decide
theorem sp_m0_slot (k : Int) : sp_slot sp_m0 k = -1 := sp_slot_none fun j a b => by have : sp_m0 580 = 0 := rfl; omega
theorem lw_q_0 : lw_q (fun _ => 0) sp_m0 := by
  have h0 : sp_m0 580 = 0 := rfl
  exact ⟨⟨rfl, by decide⟩, fun s a b => by omega, fun _ _ _ _ _ _ => rfl⟩
section J0
variable {X : sv_X} {S : sv_S} {f : sv_F} {r : sv_R} {g : sv_G} {m : Int → Int} {u : Int} {P : Int → Int → Int} {tl : Int} {t : Int → Int} {kp mp : Int → Nat} {kq : Int → Int → Nat}
theorem J0_load (hW : sv_JW S r f m u P tl t kp mp kq) {k : Int} (hk : sv_in k) (hs : sp_slot m k = -1) : sv_C X 4 MX4_load 0 0 [sv_r 0, sv_i k] S f r g (sv_qk (fun a f' r' => a = -2 ∧ f' = f ∧ r' = r) S g) := by
  obtain ⟨hok, hve, hre, hsc, hmo, hh, hbd, hmv, hVu, hpv, htl1, htt⟩ := id hW
  have hp : sv_sep 0 1 92 93 66 67 68 91 (sv_fd 69) := sv_sep0 0
  refine sv_C.mono (c_X4_load hve hmo hmv hre hok.1 hsc hp hh hok.2.2.1 hVu hpv hok.2.2.2.1 hok.2.1 k hk) ?_
  rintro rv S' f' r' g' ⟨a, h1, h2, h3, h4⟩
  rcases h4 with ⟨e1, e2, rfl, rfl⟩ | ⟨e1, -⟩ | ⟨e1, -⟩
  · exact ⟨a, h1, h2, h3, e2, rfl, rfl⟩
  · exact absurd hs e1
  · exact absurd hs e1
theorem J0_drop (hW : sv_JW S r f m u P tl t kp mp kq) {k md : Int} (hk : sv_in k) (hmd : md = 0 ∨ md = 1) (hs : sp_slot m k = -1) : sv_C X 4 MX4_drop 0 0 [sv_r 0, sv_i k, sv_i md] S f r g (sv_qk (fun a f' r' => a = -2 ∧ f' = f ∧ r' = r) S g) := by
  obtain ⟨hok, hve, hre, hsc, hmo, hh, hbd, hmv, hVu, hpv, htl1, htt⟩ := id hW
  have hp : sv_sep 0 1 92 93 66 67 68 91 (sv_fd 69) := sv_sep0 0
  refine sv_C.mono (c_X4_drop hve hmo hmv hre hok.1 hsc hp hh hok.2.2.1 hVu hpv hok.2.2.2.1 hok.2.1 k md hk hmd) ?_
  rintro rv S' f' r' g' ⟨a, h1, h2, h3, h4⟩
  rcases h4 with ⟨e1, e2, rfl, rfl⟩ | ⟨e1, -⟩
  · exact ⟨a, h1, h2, h3, e2, rfl, rfl⟩
  · exact absurd hs e1
theorem J0_alter (hW : sv_JW S r f m u P tl t kp mp kq) {k i v : Int} (hk : sv_in k) (hi : sv_in i) (hv : sv_in v) (hs : sp_slot m k = -1) : sv_C X 4 MX4_alter 0 0 [sv_r 0, sv_i k, sv_i i, sv_i v] S f r g (sv_qk (fun a f' r' => a = -2 ∧ f' = f ∧ r' = r) S g) := by
  obtain ⟨hok, hve, hre, hsc, hmo, hh, hbd, hmv, hVu, hpv, htl1, htt⟩ := id hW
  have hp : sv_sep 0 1 92 93 66 67 68 91 (sv_fd 69) := sv_sep0 0
  refine sv_C.mono (c_X4_alter hve hmo hmv hre hok.1 hsc hp hh hok.2.2.1 hVu hpv hok.2.2.2.1 hok.2.1 k i v hk hi hv) ?_
  rintro rv S' f' r' g' ⟨a, h1, h2, h3, h4⟩
  rcases h4 with ⟨e1, e2, rfl, rfl⟩ | ⟨e1, -⟩
  · exact ⟨a, h1, h2, h3, e2, rfl, rfl⟩
  · exact absurd (Or.inl hs) e1
end J0
section SVROWS5
variable {X : sv_X} {R : Room} {M : sv_M} {Z : sv_Z} {kc ks : Nat} {pc : Nat} {ls : sv_L} {st : List sv_V} {S : sv_S} {f : sv_F} {r : sv_R} {g : sv_G}
theorem sv_and1 (x : Int) : ∃ z : Int, (z = 0 ∨ z = 1) ∧ Int32.ofInt x &&& Int32.ofInt 1 = Int32.ofInt z := by
  refine ⟨(((Int32.ofInt x).toBitVec.toNat % 2 : Nat) : Int), by omega, bz_inj ?_⟩
  rw [Int32.toBitVec_and, BitVec.toNat_and, bz_tn (by omega)]
  show (Int32.ofInt x).toBitVec.toNat &&& (2 ^ 1 - 1) = _
  rw [Nat.and_two_pow_sub_one_eq_mod]
theorem sv_iandB {x : Int} (hd : decode M.2.1 pc = .ok (.iand, 1)) (k : ∀ z, z = 0 ∨ z = 1 → sv_T X R M Z kc ks (pc + 1) ls (sv_i z :: st) S f r g) : sv_T X R M Z kc ks pc ls (sv_i 1 :: sv_i x :: st) S f r g := by
  obtain ⟨z, h1, h2⟩ := sv_and1 x
  exact sv_iand hd h2 (k z h1)
theorem lw_up_set {m : Int → Int} {w v : Int} (hF : m 582 ≤ 3) (hw : 0 ≤ w ∧ w ≤ 1) {gr qr : Int → Int} (hg : lw_g gr m) (hq : lw_q qr m) : lw_g (sp_up gr (14 + w) v) (sp_up m (596 + w) v) ∧ lw_q qr (sp_up m (596 + w) v) := by
  obtain ⟨g0, g12, g13, g14, g15, g16⟩ := hg
  have e : ∀ j, j < 596 → sp_up m (596 + w) v j = m j := fun j hj => by unfold sp_up; rw [if_neg (by omega)]
  refine ⟨⟨fun j j0 j1 => ?_, ?_, ?_, ?_, ?_, ?_⟩, hq.tab fun j _ j1 => e j (by omega)⟩
  · rw [e 582 (by decide)] at j1
    rw [e _ (by omega)]; unfold sp_up; rw [if_neg (by omega)]; exact g0 j j0 j1
  · rw [e 582 (by decide)]; unfold sp_up; rw [if_neg (by omega)]; exact g12
  · rw [e 595 (by decide)]; unfold sp_up; rw [if_neg (by omega)]; exact g13
  · unfold sp_up
    by_cases h : w = 0
    · rw [if_pos (by omega), if_pos (by omega)]
    · rw [if_neg (by omega), if_neg (by omega)]; exact g14
  · unfold sp_up
    by_cases h : w = 1
    · rw [if_pos (by omega), if_pos (by omega)]
    · rw [if_neg (by omega), if_neg (by omega)]; exact g15
  · rw [e 580 (by decide)]; unfold sp_up; rw [if_neg (by omega)]; exact g16
end SVROWS5

