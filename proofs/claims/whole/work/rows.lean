section
-- ===== PART A: goes FIRST, ahead of the names: the tables' words, and 'selects' of the private methods out of them =====
/-- a private method of a class that the tables say can be made, by its rows of tables_1 -/
def lw_okq (q : MethodName × Nat) : Prop := (q.1.cls ≠ "java/lang/invoke/MethodHandle" ∧ q.1.cls ≠ "java/lang/invoke/VarHandle") ∧ Cond.instantiable q.1.cls q.2 ∈ tables_1 ∧ Cond.privateMethod q.1 ∈ tables_1 ∧ Cond.instanceMethod q.1 ∈ tables_1
theorem lw_p0 : lw_okq (⟨"StateVault$Script", "run", "([II)I"⟩, 6) := ⟨⟨by decide +kernel, by decide +kernel⟩, List.mem_of_getElem? (i := 105) (by decide +kernel), List.mem_of_getElem? (i := 187) (by decide +kernel), List.mem_of_getElem? (i := 188) (by decide +kernel)⟩
theorem lw_p1 : lw_okq (⟨"StateVault$Script", "skipBlanks", "()V"⟩, 6) := ⟨⟨by decide +kernel, by decide +kernel⟩, List.mem_of_getElem? (i := 105) (by decide +kernel), List.mem_of_getElem? (i := 194) (by decide +kernel), List.mem_of_getElem? (i := 195) (by decide +kernel)⟩
theorem lw_p2 : lw_okq (⟨"StateVault$Script", "takeWord", "()I"⟩, 6) := ⟨⟨by decide +kernel, by decide +kernel⟩, List.mem_of_getElem? (i := 105) (by decide +kernel), List.mem_of_getElem? (i := 198) (by decide +kernel), List.mem_of_getElem? (i := 199) (by decide +kernel)⟩
theorem lw_p3 : lw_okq (⟨"StateVault$Script", "isLetterNext", "()Z"⟩, 6) := ⟨⟨by decide +kernel, by decide +kernel⟩, List.mem_of_getElem? (i := 105) (by decide +kernel), List.mem_of_getElem? (i := 202) (by decide +kernel), List.mem_of_getElem? (i := 203) (by decide +kernel)⟩
theorem lw_p4 : lw_okq (⟨"StateVault$Script", "wordAt", "(I)I"⟩, 6) := ⟨⟨by decide +kernel, by decide +kernel⟩, List.mem_of_getElem? (i := 105) (by decide +kernel), List.mem_of_getElem? (i := 206) (by decide +kernel), List.mem_of_getElem? (i := 207) (by decide +kernel)⟩
theorem lw_p5 : lw_okq (⟨"StateVault$Script", "isSpelled", "(Ljava/lang/String;I)Z"⟩, 6) := ⟨⟨by decide +kernel, by decide +kernel⟩, List.mem_of_getElem? (i := 105) (by decide +kernel), List.mem_of_getElem? (i := 211) (by decide +kernel), List.mem_of_getElem? (i := 212) (by decide +kernel)⟩
theorem lw_p6 : lw_okq (⟨"StateVault$Script", "failAt", "(I)V"⟩, 6) := ⟨⟨by decide +kernel, by decide +kernel⟩, List.mem_of_getElem? (i := 105) (by decide +kernel), List.mem_of_getElem? (i := 267) (by decide +kernel), List.mem_of_getElem? (i := 268) (by decide +kernel)⟩
theorem lw_p7 : lw_okq (⟨"StateVault$Script", "runCommand", "(I)V"⟩, 6) := ⟨⟨by decide +kernel, by decide +kernel⟩, List.mem_of_getElem? (i := 105) (by decide +kernel), List.mem_of_getElem? (i := 271) (by decide +kernel), List.mem_of_getElem? (i := 272) (by decide +kernel)⟩
theorem lw_p8 : lw_okq (⟨"StateVault$Script", "runSet", "()V"⟩, 6) := ⟨⟨by decide +kernel, by decide +kernel⟩, List.mem_of_getElem? (i := 105) (by decide +kernel), List.mem_of_getElem? (i := 275) (by decide +kernel), List.mem_of_getElem? (i := 276) (by decide +kernel)⟩
theorem lw_p9 : lw_okq (⟨"StateVault$Script", "takeIndex", "(I)I"⟩, 6) := ⟨⟨by decide +kernel, by decide +kernel⟩, List.mem_of_getElem? (i := 105) (by decide +kernel), List.mem_of_getElem? (i := 279) (by decide +kernel), List.mem_of_getElem? (i := 280) (by decide +kernel)⟩
theorem lw_p10 : lw_okq (⟨"StateVault$Script", "takeDigits", "()I"⟩, 6) := ⟨⟨by decide +kernel, by decide +kernel⟩, List.mem_of_getElem? (i := 105) (by decide +kernel), List.mem_of_getElem? (i := 283) (by decide +kernel), List.mem_of_getElem? (i := 284) (by decide +kernel)⟩
theorem lw_p11 : lw_okq (⟨"StateVault$Script", "isDigitNext", "()Z"⟩, 6) := ⟨⟨by decide +kernel, by decide +kernel⟩, List.mem_of_getElem? (i := 105) (by decide +kernel), List.mem_of_getElem? (i := 287) (by decide +kernel), List.mem_of_getElem? (i := 288) (by decide +kernel)⟩
theorem lw_p12 : lw_okq (⟨"StateVault$Script", "takeNumber", "()I"⟩, 6) := ⟨⟨by decide +kernel, by decide +kernel⟩, List.mem_of_getElem? (i := 105) (by decide +kernel), List.mem_of_getElem? (i := 291) (by decide +kernel), List.mem_of_getElem? (i := 292) (by decide +kernel)⟩
theorem lw_p13 : lw_okq (⟨"StateVault$Script", "takeSemicolon", "()V"⟩, 6) := ⟨⟨by decide +kernel, by decide +kernel⟩, List.mem_of_getElem? (i := 105) (by decide +kernel), List.mem_of_getElem? (i := 295) (by decide +kernel), List.mem_of_getElem? (i := 296) (by decide +kernel)⟩
theorem lw_p14 : lw_okq (⟨"StateVault$Script", "isNext", "(I)Z"⟩, 6) := ⟨⟨by decide +kernel, by decide +kernel⟩, List.mem_of_getElem? (i := 105) (by decide +kernel), List.mem_of_getElem? (i := 299) (by decide +kernel), List.mem_of_getElem? (i := 300) (by decide +kernel)⟩
theorem lw_p15 : lw_okq (⟨"StateVault$Script", "runAdd", "()V"⟩, 6) := ⟨⟨by decide +kernel, by decide +kernel⟩, List.mem_of_getElem? (i := 105) (by decide +kernel), List.mem_of_getElem? (i := 303) (by decide +kernel), List.mem_of_getElem? (i := 304) (by decide +kernel)⟩
def lw_privs_1 : List (MethodName × Nat) := [(⟨"StateVault$Script", "run", "([II)I"⟩, 6), (⟨"StateVault$Script", "skipBlanks", "()V"⟩, 6), (⟨"StateVault$Script", "takeWord", "()I"⟩, 6), (⟨"StateVault$Script", "isLetterNext", "()Z"⟩, 6), (⟨"StateVault$Script", "wordAt", "(I)I"⟩, 6), (⟨"StateVault$Script", "isSpelled", "(Ljava/lang/String;I)Z"⟩, 6), (⟨"StateVault$Script", "failAt", "(I)V"⟩, 6), (⟨"StateVault$Script", "runCommand", "(I)V"⟩, 6), (⟨"StateVault$Script", "runSet", "()V"⟩, 6), (⟨"StateVault$Script", "takeIndex", "(I)I"⟩, 6), (⟨"StateVault$Script", "takeDigits", "()I"⟩, 6), (⟨"StateVault$Script", "isDigitNext", "()Z"⟩, 6), (⟨"StateVault$Script", "takeNumber", "()I"⟩, 6), (⟨"StateVault$Script", "takeSemicolon", "()V"⟩, 6), (⟨"StateVault$Script", "isNext", "(I)Z"⟩, 6), (⟨"StateVault$Script", "runAdd", "()V"⟩, 6)]
theorem lw_r1 : ∀ q ∈ lw_privs_1, lw_okq q := List.forall_mem_cons.mpr ⟨lw_p0, List.forall_mem_cons.mpr ⟨lw_p1, List.forall_mem_cons.mpr ⟨lw_p2, List.forall_mem_cons.mpr ⟨lw_p3, List.forall_mem_cons.mpr ⟨lw_p4, List.forall_mem_cons.mpr ⟨lw_p5, List.forall_mem_cons.mpr ⟨lw_p6, List.forall_mem_cons.mpr ⟨lw_p7, List.forall_mem_cons.mpr ⟨lw_p8, List.forall_mem_cons.mpr ⟨lw_p9, List.forall_mem_cons.mpr ⟨lw_p10, List.forall_mem_cons.mpr ⟨lw_p11, List.forall_mem_cons.mpr ⟨lw_p12, List.forall_mem_cons.mpr ⟨lw_p13, List.forall_mem_cons.mpr ⟨lw_p14, List.forall_mem_cons.mpr ⟨lw_p15, fun _ h => absurd h List.not_mem_nil⟩⟩⟩⟩⟩⟩⟩⟩⟩⟩⟩⟩⟩⟩⟩⟩
theorem lw_p16 : lw_okq (⟨"StateVault$Script", "takeAmount", "()I"⟩, 6) := ⟨⟨by decide +kernel, by decide +kernel⟩, List.mem_of_getElem? (i := 105) (by decide +kernel), List.mem_of_getElem? (i := 307) (by decide +kernel), List.mem_of_getElem? (i := 308) (by decide +kernel)⟩
theorem lw_p17 : lw_okq (⟨"StateVault$Script", "runSwap", "()V"⟩, 6) := ⟨⟨by decide +kernel, by decide +kernel⟩, List.mem_of_getElem? (i := 105) (by decide +kernel), List.mem_of_getElem? (i := 317) (by decide +kernel), List.mem_of_getElem? (i := 318) (by decide +kernel)⟩
theorem lw_p18 : lw_okq (⟨"StateVault$Script", "runFill", "()V"⟩, 6) := ⟨⟨by decide +kernel, by decide +kernel⟩, List.mem_of_getElem? (i := 105) (by decide +kernel), List.mem_of_getElem? (i := 321) (by decide +kernel), List.mem_of_getElem? (i := 322) (by decide +kernel)⟩
theorem lw_p19 : lw_okq (⟨"StateVault$Script", "runTurn", "()V"⟩, 6) := ⟨⟨by decide +kernel, by decide +kernel⟩, List.mem_of_getElem? (i := 105) (by decide +kernel), List.mem_of_getElem? (i := 325) (by decide +kernel), List.mem_of_getElem? (i := 326) (by decide +kernel)⟩
theorem lw_p20 : lw_okq (⟨"StateVault", "remember", "()V"⟩, 7) := ⟨⟨by decide +kernel, by decide +kernel⟩, List.mem_of_getElem? (i := 14) (by decide +kernel), List.mem_of_getElem? (i := 329) (by decide +kernel), List.mem_of_getElem? (i := 330) (by decide +kernel)⟩
theorem lw_p21 : lw_okq (⟨"StateVault$Moment", "copyFrom", "(LStateVault$Moment;)V"⟩, 7) := ⟨⟨by decide +kernel, by decide +kernel⟩, List.mem_of_getElem? (i := 22) (by decide +kernel), List.mem_of_getElem? (i := 333) (by decide +kernel), List.mem_of_getElem? (i := 334) (by decide +kernel)⟩
theorem lw_p22 : lw_okq (⟨"StateVault$Kept", "copyKept", "(LStateVault$Kept;)V"⟩, 7) := ⟨⟨by decide +kernel, by decide +kernel⟩, List.mem_of_getElem? (i := 29) (by decide +kernel), List.mem_of_getElem? (i := 338) (by decide +kernel), List.mem_of_getElem? (i := 339) (by decide +kernel)⟩
theorem lw_p23 : lw_okq (⟨"StateVault$Reading", "readAll", "(LStateVault$Moment;)V"⟩, 2) := ⟨⟨by decide +kernel, by decide +kernel⟩, List.mem_of_getElem? (i := 133) (by decide +kernel), List.mem_of_getElem? (i := 357) (by decide +kernel), List.mem_of_getElem? (i := 358) (by decide +kernel)⟩
theorem lw_p24 : lw_okq (⟨"StateVault$Reading", "readPlace", "(LStateVault$Moment;I)I"⟩, 2) := ⟨⟨by decide +kernel, by decide +kernel⟩, List.mem_of_getElem? (i := 133) (by decide +kernel), List.mem_of_getElem? (i := 361) (by decide +kernel), List.mem_of_getElem? (i := 362) (by decide +kernel)⟩
theorem lw_p25 : lw_okq (⟨"StateVault$Moment", "placeOf", "(I)I"⟩, 7) := ⟨⟨by decide +kernel, by decide +kernel⟩, List.mem_of_getElem? (i := 22) (by decide +kernel), List.mem_of_getElem? (i := 365) (by decide +kernel), List.mem_of_getElem? (i := 366) (by decide +kernel)⟩
theorem lw_p26 : lw_okq (⟨"StateVault", "baseForGame", "()I"⟩, 7) := ⟨⟨by decide +kernel, by decide +kernel⟩, List.mem_of_getElem? (i := 14) (by decide +kernel), List.mem_of_getElem? (i := 375) (by decide +kernel), List.mem_of_getElem? (i := 376) (by decide +kernel)⟩
theorem lw_p27 : lw_okq (⟨"StateVault", "canBeBase", "(II)Z"⟩, 7) := ⟨⟨by decide +kernel, by decide +kernel⟩, List.mem_of_getElem? (i := 14) (by decide +kernel), List.mem_of_getElem? (i := 380) (by decide +kernel), List.mem_of_getElem? (i := 381) (by decide +kernel)⟩
theorem lw_p28 : lw_okq (⟨"StateVault$Moment", "linksOf", "(I)I"⟩, 7) := ⟨⟨by decide +kernel, by decide +kernel⟩, List.mem_of_getElem? (i := 22) (by decide +kernel), List.mem_of_getElem? (i := 384) (by decide +kernel), List.mem_of_getElem? (i := 385) (by decide +kernel)⟩
theorem lw_p29 : lw_okq (⟨"StateVault$Moment", "baseOf", "(I)I"⟩, 7) := ⟨⟨by decide +kernel, by decide +kernel⟩, List.mem_of_getElem? (i := 22) (by decide +kernel), List.mem_of_getElem? (i := 388) (by decide +kernel), List.mem_of_getElem? (i := 389) (by decide +kernel)⟩
theorem lw_p30 : lw_okq (⟨"StateVault", "distance", "(II[I)I"⟩, 7) := ⟨⟨by decide +kernel, by decide +kernel⟩, List.mem_of_getElem? (i := 14) (by decide +kernel), List.mem_of_getElem? (i := 393) (by decide +kernel), List.mem_of_getElem? (i := 394) (by decide +kernel)⟩
theorem lw_p31 : lw_okq (⟨"StateVault", "raiseRead", "(II[I)V"⟩, 7) := ⟨⟨by decide +kernel, by decide +kernel⟩, List.mem_of_getElem? (i := 14) (by decide +kernel), List.mem_of_getElem? (i := 397) (by decide +kernel), List.mem_of_getElem? (i := 398) (by decide +kernel)⟩
def lw_privs_2 : List (MethodName × Nat) := [(⟨"StateVault$Script", "takeAmount", "()I"⟩, 6), (⟨"StateVault$Script", "runSwap", "()V"⟩, 6), (⟨"StateVault$Script", "runFill", "()V"⟩, 6), (⟨"StateVault$Script", "runTurn", "()V"⟩, 6), (⟨"StateVault", "remember", "()V"⟩, 7), (⟨"StateVault$Moment", "copyFrom", "(LStateVault$Moment;)V"⟩, 7), (⟨"StateVault$Kept", "copyKept", "(LStateVault$Kept;)V"⟩, 7), (⟨"StateVault$Reading", "readAll", "(LStateVault$Moment;)V"⟩, 2), (⟨"StateVault$Reading", "readPlace", "(LStateVault$Moment;I)I"⟩, 2), (⟨"StateVault$Moment", "placeOf", "(I)I"⟩, 7), (⟨"StateVault", "baseForGame", "()I"⟩, 7), (⟨"StateVault", "canBeBase", "(II)Z"⟩, 7), (⟨"StateVault$Moment", "linksOf", "(I)I"⟩, 7), (⟨"StateVault$Moment", "baseOf", "(I)I"⟩, 7), (⟨"StateVault", "distance", "(II[I)I"⟩, 7), (⟨"StateVault", "raiseRead", "(II[I)V"⟩, 7)]
theorem lw_r2 : ∀ q ∈ lw_privs_2, lw_okq q := List.forall_mem_cons.mpr ⟨lw_p16, List.forall_mem_cons.mpr ⟨lw_p17, List.forall_mem_cons.mpr ⟨lw_p18, List.forall_mem_cons.mpr ⟨lw_p19, List.forall_mem_cons.mpr ⟨lw_p20, List.forall_mem_cons.mpr ⟨lw_p21, List.forall_mem_cons.mpr ⟨lw_p22, List.forall_mem_cons.mpr ⟨lw_p23, List.forall_mem_cons.mpr ⟨lw_p24, List.forall_mem_cons.mpr ⟨lw_p25, List.forall_mem_cons.mpr ⟨lw_p26, List.forall_mem_cons.mpr ⟨lw_p27, List.forall_mem_cons.mpr ⟨lw_p28, List.forall_mem_cons.mpr ⟨lw_p29, List.forall_mem_cons.mpr ⟨lw_p30, List.forall_mem_cons.mpr ⟨lw_p31, fun _ h => absurd h List.not_mem_nil⟩⟩⟩⟩⟩⟩⟩⟩⟩⟩⟩⟩⟩⟩⟩⟩
theorem lw_p32 : lw_okq (⟨"StateVault$Kept", "makeWhole", "([I)V"⟩, 7) := ⟨⟨by decide +kernel, by decide +kernel⟩, List.mem_of_getElem? (i := 29) (by decide +kernel), List.mem_of_getElem? (i := 401) (by decide +kernel), List.mem_of_getElem? (i := 402) (by decide +kernel)⟩
theorem lw_p33 : lw_okq (⟨"StateVault$Kept", "makeDifference", "(I[I[I)V"⟩, 7) := ⟨⟨by decide +kernel, by decide +kernel⟩, List.mem_of_getElem? (i := 29) (by decide +kernel), List.mem_of_getElem? (i := 406) (by decide +kernel), List.mem_of_getElem? (i := 407) (by decide +kernel)⟩
theorem lw_p34 : lw_okq (⟨"StateVault", "mendFollowers", "(I)V"⟩, 7) := ⟨⟨by decide +kernel, by decide +kernel⟩, List.mem_of_getElem? (i := 14) (by decide +kernel), List.mem_of_getElem? (i := 419) (by decide +kernel), List.mem_of_getElem? (i := 420) (by decide +kernel)⟩
theorem lw_p35 : lw_okq (⟨"StateVault$Moment", "removePlace", "(I)V"⟩, 7) := ⟨⟨by decide +kernel, by decide +kernel⟩, List.mem_of_getElem? (i := 22) (by decide +kernel), List.mem_of_getElem? (i := 423) (by decide +kernel), List.mem_of_getElem? (i := 424) (by decide +kernel)⟩
theorem lw_p36 : lw_okq (⟨"StateVault$Moment", "followersOf", "(I)I"⟩, 7) := ⟨⟨by decide +kernel, by decide +kernel⟩, List.mem_of_getElem? (i := 22) (by decide +kernel), List.mem_of_getElem? (i := 427) (by decide +kernel), List.mem_of_getElem? (i := 428) (by decide +kernel)⟩
theorem lw_p37 : lw_okq (⟨"StateVault$Moment", "weight", "()I"⟩, 7) := ⟨⟨by decide +kernel, by decide +kernel⟩, List.mem_of_getElem? (i := 22) (by decide +kernel), List.mem_of_getElem? (i := 439) (by decide +kernel), List.mem_of_getElem? (i := 440) (by decide +kernel)⟩
theorem lw_p38 : lw_okq (⟨"StateVault$Kept", "weight", "()I"⟩, 7) := ⟨⟨by decide +kernel, by decide +kernel⟩, List.mem_of_getElem? (i := 29) (by decide +kernel), List.mem_of_getElem? (i := 443) (by decide +kernel), List.mem_of_getElem? (i := 444) (by decide +kernel)⟩
theorem lw_p39 : lw_okq (⟨"StateVault", "packPlace", "(I)V"⟩, 7) := ⟨⟨by decide +kernel, by decide +kernel⟩, List.mem_of_getElem? (i := 14) (by decide +kernel), List.mem_of_getElem? (i := 447) (by decide +kernel), List.mem_of_getElem? (i := 448) (by decide +kernel)⟩
theorem lw_p40 : lw_okq (⟨"StateVault", "propertyOf", "(II)I"⟩, 7) := ⟨⟨by decide +kernel, by decide +kernel⟩, List.mem_of_getElem? (i := 14) (by decide +kernel), List.mem_of_getElem? (i := 467) (by decide +kernel), List.mem_of_getElem? (i := 468) (by decide +kernel)⟩
theorem lw_p41 : lw_okq (⟨"StateVault", "causeOf", "(III)I"⟩, 7) := ⟨⟨by decide +kernel, by decide +kernel⟩, List.mem_of_getElem? (i := 14) (by decide +kernel), List.mem_of_getElem? (i := 484) (by decide +kernel), List.mem_of_getElem? (i := 485) (by decide +kernel)⟩
theorem lw_p42 : lw_okq (⟨"StateVault", "reasonOf", "(I)I"⟩, 7) := ⟨⟨by decide +kernel, by decide +kernel⟩, List.mem_of_getElem? (i := 14) (by decide +kernel), List.mem_of_getElem? (i := 488) (by decide +kernel), List.mem_of_getElem? (i := 489) (by decide +kernel)⟩
theorem lw_p43 : lw_okq (⟨"StateVault", "nearestToGame", "()I"⟩, 7) := ⟨⟨by decide +kernel, by decide +kernel⟩, List.mem_of_getElem? (i := 14) (by decide +kernel), List.mem_of_getElem? (i := 505) (by decide +kernel), List.mem_of_getElem? (i := 506) (by decide +kernel)⟩
theorem lw_p44 : lw_okq (⟨"StateVault", "tally", "(I)I"⟩, 7) := ⟨⟨by decide +kernel, by decide +kernel⟩, List.mem_of_getElem? (i := 14) (by decide +kernel), List.mem_of_getElem? (i := 513) (by decide +kernel), List.mem_of_getElem? (i := 514) (by decide +kernel)⟩
theorem lw_p45 : lw_okq (⟨"StateVault$Moment", "wholeOnes", "()I"⟩, 7) := ⟨⟨by decide +kernel, by decide +kernel⟩, List.mem_of_getElem? (i := 22) (by decide +kernel), List.mem_of_getElem? (i := 517) (by decide +kernel), List.mem_of_getElem? (i := 518) (by decide +kernel)⟩
theorem lw_p46 : lw_okq (⟨"StateVault", "unreadable", "()I"⟩, 7) := ⟨⟨by decide +kernel, by decide +kernel⟩, List.mem_of_getElem? (i := 14) (by decide +kernel), List.mem_of_getElem? (i := 522) (by decide +kernel), List.mem_of_getElem? (i := 523) (by decide +kernel)⟩
theorem lw_p47 : lw_okq (⟨"StateVault$Moment", "longestChain", "()I"⟩, 7) := ⟨⟨by decide +kernel, by decide +kernel⟩, List.mem_of_getElem? (i := 22) (by decide +kernel), List.mem_of_getElem? (i := 526) (by decide +kernel), List.mem_of_getElem? (i := 527) (by decide +kernel)⟩
def lw_privs_3 : List (MethodName × Nat) := [(⟨"StateVault$Kept", "makeWhole", "([I)V"⟩, 7), (⟨"StateVault$Kept", "makeDifference", "(I[I[I)V"⟩, 7), (⟨"StateVault", "mendFollowers", "(I)V"⟩, 7), (⟨"StateVault$Moment", "removePlace", "(I)V"⟩, 7), (⟨"StateVault$Moment", "followersOf", "(I)I"⟩, 7), (⟨"StateVault$Moment", "weight", "()I"⟩, 7), (⟨"StateVault$Kept", "weight", "()I"⟩, 7), (⟨"StateVault", "packPlace", "(I)V"⟩, 7), (⟨"StateVault", "propertyOf", "(II)I"⟩, 7), (⟨"StateVault", "causeOf", "(III)I"⟩, 7), (⟨"StateVault", "reasonOf", "(I)I"⟩, 7), (⟨"StateVault", "nearestToGame", "()I"⟩, 7), (⟨"StateVault", "tally", "(I)I"⟩, 7), (⟨"StateVault$Moment", "wholeOnes", "()I"⟩, 7), (⟨"StateVault", "unreadable", "()I"⟩, 7), (⟨"StateVault$Moment", "longestChain", "()I"⟩, 7)]
theorem lw_r3 : ∀ q ∈ lw_privs_3, lw_okq q := List.forall_mem_cons.mpr ⟨lw_p32, List.forall_mem_cons.mpr ⟨lw_p33, List.forall_mem_cons.mpr ⟨lw_p34, List.forall_mem_cons.mpr ⟨lw_p35, List.forall_mem_cons.mpr ⟨lw_p36, List.forall_mem_cons.mpr ⟨lw_p37, List.forall_mem_cons.mpr ⟨lw_p38, List.forall_mem_cons.mpr ⟨lw_p39, List.forall_mem_cons.mpr ⟨lw_p40, List.forall_mem_cons.mpr ⟨lw_p41, List.forall_mem_cons.mpr ⟨lw_p42, List.forall_mem_cons.mpr ⟨lw_p43, List.forall_mem_cons.mpr ⟨lw_p44, List.forall_mem_cons.mpr ⟨lw_p45, List.forall_mem_cons.mpr ⟨lw_p46, List.forall_mem_cons.mpr ⟨lw_p47, fun _ h => absurd h List.not_mem_nil⟩⟩⟩⟩⟩⟩⟩⟩⟩⟩⟩⟩⟩⟩⟩⟩
theorem lw_p48 : lw_okq (⟨"StateVault", "addPlace", "(JI)J"⟩, 7) := ⟨⟨by decide +kernel, by decide +kernel⟩, List.mem_of_getElem? (i := 14) (by decide +kernel), List.mem_of_getElem? (i := 538) (by decide +kernel), List.mem_of_getElem? (i := 539) (by decide +kernel)⟩
theorem lw_p49 : lw_okq (⟨"StateVaultModel", "readsScript", "()V"⟩, 17) := ⟨⟨by decide +kernel, by decide +kernel⟩, List.mem_of_getElem? (i := 542) (by decide +kernel), List.mem_of_getElem? (i := 620) (by decide +kernel), List.mem_of_getElem? (i := 621) (by decide +kernel)⟩
theorem lw_p50 : lw_okq (⟨"StateVaultModel", "skips", "()V"⟩, 17) := ⟨⟨by decide +kernel, by decide +kernel⟩, List.mem_of_getElem? (i := 542) (by decide +kernel), List.mem_of_getElem? (i := 624) (by decide +kernel), List.mem_of_getElem? (i := 625) (by decide +kernel)⟩
theorem lw_p51 : lw_okq (⟨"StateVaultModel", "next", "()I"⟩, 17) := ⟨⟨by decide +kernel, by decide +kernel⟩, List.mem_of_getElem? (i := 542) (by decide +kernel), List.mem_of_getElem? (i := 628) (by decide +kernel), List.mem_of_getElem? (i := 629) (by decide +kernel)⟩
theorem lw_p52 : lw_okq (⟨"StateVaultModel", "readsCommand", "()V"⟩, 17) := ⟨⟨by decide +kernel, by decide +kernel⟩, List.mem_of_getElem? (i := 542) (by decide +kernel), List.mem_of_getElem? (i := 632) (by decide +kernel), List.mem_of_getElem? (i := 633) (by decide +kernel)⟩
theorem lw_p53 : lw_okq (⟨"StateVaultModel", "wordOf", "(I)I"⟩, 17) := ⟨⟨by decide +kernel, by decide +kernel⟩, List.mem_of_getElem? (i := 542) (by decide +kernel), List.mem_of_getElem? (i := 636) (by decide +kernel), List.mem_of_getElem? (i := 637) (by decide +kernel)⟩
theorem lw_p54 : lw_okq (⟨"StateVaultModel", "isWord", "(III)Z"⟩, 17) := ⟨⟨by decide +kernel, by decide +kernel⟩, List.mem_of_getElem? (i := 542) (by decide +kernel), List.mem_of_getElem? (i := 641) (by decide +kernel), List.mem_of_getElem? (i := 642) (by decide +kernel)⟩
theorem lw_p55 : lw_okq (⟨"StateVaultModel", "fails", "(I)V"⟩, 17) := ⟨⟨by decide +kernel, by decide +kernel⟩, List.mem_of_getElem? (i := 542) (by decide +kernel), List.mem_of_getElem? (i := 649) (by decide +kernel), List.mem_of_getElem? (i := 650) (by decide +kernel)⟩
theorem lw_p56 : lw_okq (⟨"StateVaultModel", "number", "(II)I"⟩, 17) := ⟨⟨by decide +kernel, by decide +kernel⟩, List.mem_of_getElem? (i := 542) (by decide +kernel), List.mem_of_getElem? (i := 656) (by decide +kernel), List.mem_of_getElem? (i := 657) (by decide +kernel)⟩
theorem lw_p57 : lw_okq (⟨"StateVaultModel", "isDigit", "()Z"⟩, 17) := ⟨⟨by decide +kernel, by decide +kernel⟩, List.mem_of_getElem? (i := 542) (by decide +kernel), List.mem_of_getElem? (i := 660) (by decide +kernel), List.mem_of_getElem? (i := 661) (by decide +kernel)⟩
theorem lw_p58 : lw_okq (⟨"StateVaultModel", "amount", "()I"⟩, 17) := ⟨⟨by decide +kernel, by decide +kernel⟩, List.mem_of_getElem? (i := 542) (by decide +kernel), List.mem_of_getElem? (i := 664) (by decide +kernel), List.mem_of_getElem? (i := 665) (by decide +kernel)⟩
theorem lw_p59 : lw_okq (⟨"StateVaultModel", "keeps", "()V"⟩, 17) := ⟨⟨by decide +kernel, by decide +kernel⟩, List.mem_of_getElem? (i := 542) (by decide +kernel), List.mem_of_getElem? (i := 668) (by decide +kernel), List.mem_of_getElem? (i := 669) (by decide +kernel)⟩
theorem lw_p60 : lw_okq (⟨"StateVaultModel", "does", "(I)V"⟩, 17) := ⟨⟨by decide +kernel, by decide +kernel⟩, List.mem_of_getElem? (i := 542) (by decide +kernel), List.mem_of_getElem? (i := 672) (by decide +kernel), List.mem_of_getElem? (i := 673) (by decide +kernel)⟩
theorem lw_p61 : lw_okq (⟨"StateVaultModel", "turns", "(II)V"⟩, 17) := ⟨⟨by decide +kernel, by decide +kernel⟩, List.mem_of_getElem? (i := 542) (by decide +kernel), List.mem_of_getElem? (i := 676) (by decide +kernel), List.mem_of_getElem? (i := 677) (by decide +kernel)⟩
theorem lw_p62 : lw_okq (⟨"StateVaultModel", "takesGame", "()V"⟩, 17) := ⟨⟨by decide +kernel, by decide +kernel⟩, List.mem_of_getElem? (i := 542) (by decide +kernel), List.mem_of_getElem? (i := 684) (by decide +kernel), List.mem_of_getElem? (i := 685) (by decide +kernel)⟩
theorem lw_p63 : lw_okq (⟨"StateVaultModel", "raises", "()V"⟩, 17) := ⟨⟨by decide +kernel, by decide +kernel⟩, List.mem_of_getElem? (i := 542) (by decide +kernel), List.mem_of_getElem? (i := 688) (by decide +kernel), List.mem_of_getElem? (i := 689) (by decide +kernel)⟩
def lw_privs_4 : List (MethodName × Nat) := [(⟨"StateVault", "addPlace", "(JI)J"⟩, 7), (⟨"StateVaultModel", "readsScript", "()V"⟩, 17), (⟨"StateVaultModel", "skips", "()V"⟩, 17), (⟨"StateVaultModel", "next", "()I"⟩, 17), (⟨"StateVaultModel", "readsCommand", "()V"⟩, 17), (⟨"StateVaultModel", "wordOf", "(I)I"⟩, 17), (⟨"StateVaultModel", "isWord", "(III)Z"⟩, 17), (⟨"StateVaultModel", "fails", "(I)V"⟩, 17), (⟨"StateVaultModel", "number", "(II)I"⟩, 17), (⟨"StateVaultModel", "isDigit", "()Z"⟩, 17), (⟨"StateVaultModel", "amount", "()I"⟩, 17), (⟨"StateVaultModel", "keeps", "()V"⟩, 17), (⟨"StateVaultModel", "does", "(I)V"⟩, 17), (⟨"StateVaultModel", "turns", "(II)V"⟩, 17), (⟨"StateVaultModel", "takesGame", "()V"⟩, 17), (⟨"StateVaultModel", "raises", "()V"⟩, 17)]
theorem lw_r4 : ∀ q ∈ lw_privs_4, lw_okq q := List.forall_mem_cons.mpr ⟨lw_p48, List.forall_mem_cons.mpr ⟨lw_p49, List.forall_mem_cons.mpr ⟨lw_p50, List.forall_mem_cons.mpr ⟨lw_p51, List.forall_mem_cons.mpr ⟨lw_p52, List.forall_mem_cons.mpr ⟨lw_p53, List.forall_mem_cons.mpr ⟨lw_p54, List.forall_mem_cons.mpr ⟨lw_p55, List.forall_mem_cons.mpr ⟨lw_p56, List.forall_mem_cons.mpr ⟨lw_p57, List.forall_mem_cons.mpr ⟨lw_p58, List.forall_mem_cons.mpr ⟨lw_p59, List.forall_mem_cons.mpr ⟨lw_p60, List.forall_mem_cons.mpr ⟨lw_p61, List.forall_mem_cons.mpr ⟨lw_p62, List.forall_mem_cons.mpr ⟨lw_p63, fun _ h => absurd h List.not_mem_nil⟩⟩⟩⟩⟩⟩⟩⟩⟩⟩⟩⟩⟩⟩⟩⟩
theorem lw_p64 : lw_okq (⟨"StateVaultModel", "givesGame", "()V"⟩, 17) := ⟨⟨by decide +kernel, by decide +kernel⟩, List.mem_of_getElem? (i := 542) (by decide +kernel), List.mem_of_getElem? (i := 692) (by decide +kernel), List.mem_of_getElem? (i := 693) (by decide +kernel)⟩
theorem lw_p65 : lw_okq (⟨"StateVaultModel", "sumNow", "()I"⟩, 17) := ⟨⟨by decide +kernel, by decide +kernel⟩, List.mem_of_getElem? (i := 542) (by decide +kernel), List.mem_of_getElem? (i := 700) (by decide +kernel), List.mem_of_getElem? (i := 701) (by decide +kernel)⟩
theorem lw_p66 : lw_okq (⟨"StateVaultModel", "isNear", "()Z"⟩, 17) := ⟨⟨by decide +kernel, by decide +kernel⟩, List.mem_of_getElem? (i := 542) (by decide +kernel), List.mem_of_getElem? (i := 704) (by decide +kernel), List.mem_of_getElem? (i := 705) (by decide +kernel)⟩
theorem lw_p67 : lw_okq (⟨"StateVaultModel", "setsAside", "()V"⟩, 17) := ⟨⟨by decide +kernel, by decide +kernel⟩, List.mem_of_getElem? (i := 542) (by decide +kernel), List.mem_of_getElem? (i := 708) (by decide +kernel), List.mem_of_getElem? (i := 709) (by decide +kernel)⟩
theorem lw_p68 : lw_okq (⟨"StateVaultModel", "reads", "(I)Z"⟩, 17) := ⟨⟨by decide +kernel, by decide +kernel⟩, List.mem_of_getElem? (i := 542) (by decide +kernel), List.mem_of_getElem? (i := 712) (by decide +kernel), List.mem_of_getElem? (i := 713) (by decide +kernel)⟩
theorem lw_p69 : lw_okq (⟨"StateVaultModel", "climbs", "(I)V"⟩, 17) := ⟨⟨by decide +kernel, by decide +kernel⟩, List.mem_of_getElem? (i := 542) (by decide +kernel), List.mem_of_getElem? (i := 716) (by decide +kernel), List.mem_of_getElem? (i := 717) (by decide +kernel)⟩
theorem lw_p70 : lw_okq (⟨"StateVaultModel", "slotOf", "(I)I"⟩, 17) := ⟨⟨by decide +kernel, by decide +kernel⟩, List.mem_of_getElem? (i := 542) (by decide +kernel), List.mem_of_getElem? (i := 720) (by decide +kernel), List.mem_of_getElem? (i := 721) (by decide +kernel)⟩
theorem lw_p71 : lw_okq (⟨"StateVaultModel", "of", "(II)I"⟩, 17) := ⟨⟨by decide +kernel, by decide +kernel⟩, List.mem_of_getElem? (i := 542) (by decide +kernel), List.mem_of_getElem? (i := 724) (by decide +kernel), List.mem_of_getElem? (i := 725) (by decide +kernel)⟩
theorem lw_p72 : lw_okq (⟨"StateVaultModel", "isWhole", "(I)Z"⟩, 17) := ⟨⟨by decide +kernel, by decide +kernel⟩, List.mem_of_getElem? (i := 542) (by decide +kernel), List.mem_of_getElem? (i := 728) (by decide +kernel), List.mem_of_getElem? (i := 729) (by decide +kernel)⟩
theorem lw_p73 : lw_okq (⟨"StateVaultModel", "raisesTo", "(I)V"⟩, 17) := ⟨⟨by decide +kernel, by decide +kernel⟩, List.mem_of_getElem? (i := 542) (by decide +kernel), List.mem_of_getElem? (i := 732) (by decide +kernel), List.mem_of_getElem? (i := 733) (by decide +kernel)⟩
theorem lw_p74 : lw_okq (⟨"StateVaultModel", "differences", "(I)I"⟩, 17) := ⟨⟨by decide +kernel, by decide +kernel⟩, List.mem_of_getElem? (i := 542) (by decide +kernel), List.mem_of_getElem? (i := 736) (by decide +kernel), List.mem_of_getElem? (i := 737) (by decide +kernel)⟩
theorem lw_p75 : lw_okq (⟨"StateVaultModel", "put", "(III)V"⟩, 17) := ⟨⟨by decide +kernel, by decide +kernel⟩, List.mem_of_getElem? (i := 542) (by decide +kernel), List.mem_of_getElem? (i := 740) (by decide +kernel), List.mem_of_getElem? (i := 741) (by decide +kernel)⟩
theorem lw_p76 : lw_okq (⟨"StateVaultModel", "writesDifference", "(II)V"⟩, 17) := ⟨⟨by decide +kernel, by decide +kernel⟩, List.mem_of_getElem? (i := 542) (by decide +kernel), List.mem_of_getElem? (i := 744) (by decide +kernel), List.mem_of_getElem? (i := 745) (by decide +kernel)⟩
theorem lw_p77 : lw_okq (⟨"StateVaultModel", "writesWhole", "(I)V"⟩, 17) := ⟨⟨by decide +kernel, by decide +kernel⟩, List.mem_of_getElem? (i := 542) (by decide +kernel), List.mem_of_getElem? (i := 748) (by decide +kernel), List.mem_of_getElem? (i := 749) (by decide +kernel)⟩
theorem lw_p78 : lw_okq (⟨"StateVaultModel", "basedOn", "(I)I"⟩, 17) := ⟨⟨by decide +kernel, by decide +kernel⟩, List.mem_of_getElem? (i := 542) (by decide +kernel), List.mem_of_getElem? (i := 760) (by decide +kernel), List.mem_of_getElem? (i := 761) (by decide +kernel)⟩
theorem lw_p79 : lw_okq (⟨"StateVaultModel", "weights", "()I"⟩, 17) := ⟨⟨by decide +kernel, by decide +kernel⟩, List.mem_of_getElem? (i := 542) (by decide +kernel), List.mem_of_getElem? (i := 772) (by decide +kernel), List.mem_of_getElem? (i := 773) (by decide +kernel)⟩
def lw_privs_5 : List (MethodName × Nat) := [(⟨"StateVaultModel", "givesGame", "()V"⟩, 17), (⟨"StateVaultModel", "sumNow", "()I"⟩, 17), (⟨"StateVaultModel", "isNear", "()Z"⟩, 17), (⟨"StateVaultModel", "setsAside", "()V"⟩, 17), (⟨"StateVaultModel", "reads", "(I)Z"⟩, 17), (⟨"StateVaultModel", "climbs", "(I)V"⟩, 17), (⟨"StateVaultModel", "slotOf", "(I)I"⟩, 17), (⟨"StateVaultModel", "of", "(II)I"⟩, 17), (⟨"StateVaultModel", "isWhole", "(I)Z"⟩, 17), (⟨"StateVaultModel", "raisesTo", "(I)V"⟩, 17), (⟨"StateVaultModel", "differences", "(I)I"⟩, 17), (⟨"StateVaultModel", "put", "(III)V"⟩, 17), (⟨"StateVaultModel", "writesDifference", "(II)V"⟩, 17), (⟨"StateVaultModel", "writesWhole", "(I)V"⟩, 17), (⟨"StateVaultModel", "basedOn", "(I)I"⟩, 17), (⟨"StateVaultModel", "weights", "()I"⟩, 17)]
theorem lw_r5 : ∀ q ∈ lw_privs_5, lw_okq q := List.forall_mem_cons.mpr ⟨lw_p64, List.forall_mem_cons.mpr ⟨lw_p65, List.forall_mem_cons.mpr ⟨lw_p66, List.forall_mem_cons.mpr ⟨lw_p67, List.forall_mem_cons.mpr ⟨lw_p68, List.forall_mem_cons.mpr ⟨lw_p69, List.forall_mem_cons.mpr ⟨lw_p70, List.forall_mem_cons.mpr ⟨lw_p71, List.forall_mem_cons.mpr ⟨lw_p72, List.forall_mem_cons.mpr ⟨lw_p73, List.forall_mem_cons.mpr ⟨lw_p74, List.forall_mem_cons.mpr ⟨lw_p75, List.forall_mem_cons.mpr ⟨lw_p76, List.forall_mem_cons.mpr ⟨lw_p77, List.forall_mem_cons.mpr ⟨lw_p78, List.forall_mem_cons.mpr ⟨lw_p79, fun _ h => absurd h List.not_mem_nil⟩⟩⟩⟩⟩⟩⟩⟩⟩⟩⟩⟩⟩⟩⟩⟩
theorem lw_p80 : lw_okq (⟨"StateVaultModel", "weight", "(I)I"⟩, 17) := ⟨⟨by decide +kernel, by decide +kernel⟩, List.mem_of_getElem? (i := 542) (by decide +kernel), List.mem_of_getElem? (i := 776) (by decide +kernel), List.mem_of_getElem? (i := 777) (by decide +kernel)⟩
theorem lw_p81 : lw_okq (⟨"StateVaultModel", "nearestBase", "(I)I"⟩, 17) := ⟨⟨by decide +kernel, by decide +kernel⟩, List.mem_of_getElem? (i := 542) (by decide +kernel), List.mem_of_getElem? (i := 780) (by decide +kernel), List.mem_of_getElem? (i := 781) (by decide +kernel)⟩
theorem lw_p82 : lw_okq (⟨"StateVaultModel", "linksOf", "(I)I"⟩, 17) := ⟨⟨by decide +kernel, by decide +kernel⟩, List.mem_of_getElem? (i := 542) (by decide +kernel), List.mem_of_getElem? (i := 784) (by decide +kernel), List.mem_of_getElem? (i := 785) (by decide +kernel)⟩
theorem lw_p83 : lw_okq (⟨"StateVaultModel", "part", "(II)I"⟩, 17) := ⟨⟨by decide +kernel, by decide +kernel⟩, List.mem_of_getElem? (i := 542) (by decide +kernel), List.mem_of_getElem? (i := 800) (by decide +kernel), List.mem_of_getElem? (i := 801) (by decide +kernel)⟩
theorem lw_p84 : lw_okq (⟨"StateVaultModel", "isInChain", "(I)Z"⟩, 17) := ⟨⟨by decide +kernel, by decide +kernel⟩, List.mem_of_getElem? (i := 542) (by decide +kernel), List.mem_of_getElem? (i := 824) (by decide +kernel), List.mem_of_getElem? (i := 825) (by decide +kernel)⟩
theorem lw_p85 : lw_okq (⟨"StateVaultModel", "counts", "(I)I"⟩, 17) := ⟨⟨by decide +kernel, by decide +kernel⟩, List.mem_of_getElem? (i := 542) (by decide +kernel), List.mem_of_getElem? (i := 836) (by decide +kernel), List.mem_of_getElem? (i := 837) (by decide +kernel)⟩
theorem lw_p86 : lw_okq (⟨"StateVaultModel", "longest", "()I"⟩, 17) := ⟨⟨by decide +kernel, by decide +kernel⟩, List.mem_of_getElem? (i := 542) (by decide +kernel), List.mem_of_getElem? (i := 840) (by decide +kernel), List.mem_of_getElem? (i := 841) (by decide +kernel)⟩
theorem lw_p87 : lw_okq (⟨"StateVaultModel", "mixes", "(J)V"⟩, 17) := ⟨⟨by decide +kernel, by decide +kernel⟩, List.mem_of_getElem? (i := 542) (by decide +kernel), List.mem_of_getElem? (i := 850) (by decide +kernel), List.mem_of_getElem? (i := 851) (by decide +kernel)⟩
theorem lw_p88 : lw_okq (⟨"StateVaultModel", "mixesKept", "(I)V"⟩, 17) := ⟨⟨by decide +kernel, by decide +kernel⟩, List.mem_of_getElem? (i := 542) (by decide +kernel), List.mem_of_getElem? (i := 855) (by decide +kernel), List.mem_of_getElem? (i := 856) (by decide +kernel)⟩
def lw_privs_6 : List (MethodName × Nat) := [(⟨"StateVaultModel", "weight", "(I)I"⟩, 17), (⟨"StateVaultModel", "nearestBase", "(I)I"⟩, 17), (⟨"StateVaultModel", "linksOf", "(I)I"⟩, 17), (⟨"StateVaultModel", "part", "(II)I"⟩, 17), (⟨"StateVaultModel", "isInChain", "(I)Z"⟩, 17), (⟨"StateVaultModel", "counts", "(I)I"⟩, 17), (⟨"StateVaultModel", "longest", "()I"⟩, 17), (⟨"StateVaultModel", "mixes", "(J)V"⟩, 17), (⟨"StateVaultModel", "mixesKept", "(I)V"⟩, 17)]
theorem lw_r6 : ∀ q ∈ lw_privs_6, lw_okq q := List.forall_mem_cons.mpr ⟨lw_p80, List.forall_mem_cons.mpr ⟨lw_p81, List.forall_mem_cons.mpr ⟨lw_p82, List.forall_mem_cons.mpr ⟨lw_p83, List.forall_mem_cons.mpr ⟨lw_p84, List.forall_mem_cons.mpr ⟨lw_p85, List.forall_mem_cons.mpr ⟨lw_p86, List.forall_mem_cons.mpr ⟨lw_p87, List.forall_mem_cons.mpr ⟨lw_p88, fun _ h => absurd h List.not_mem_nil⟩⟩⟩⟩⟩⟩⟩⟩⟩
def lw_privs : List (MethodName × Nat) := lw_privs_1 ++ (lw_privs_2 ++ (lw_privs_3 ++ (lw_privs_4 ++ (lw_privs_5 ++ (lw_privs_6)))))
def lw_tbl : List Cond := k2_sels lw_privs ++ tables_1
theorem lw_privs_ok : ∀ q ∈ lw_privs, lw_okq q := by
  show ∀ q ∈ lw_privs_1 ++ (lw_privs_2 ++ (lw_privs_3 ++ (lw_privs_4 ++ (lw_privs_5 ++ (lw_privs_6))))), lw_okq q
  exact List.forall_mem_append.mpr ⟨lw_r1, List.forall_mem_append.mpr ⟨lw_r2, List.forall_mem_append.mpr ⟨lw_r3, List.forall_mem_append.mpr ⟨lw_r4, List.forall_mem_append.mpr ⟨lw_r5, lw_r6⟩⟩⟩⟩⟩
-- ===== end of PART A; then your names; then what follows =====
end
section
def RX0 : String := "StateVault$Kept"
def TX0 : u_T := fun k => match k with
  | 0 => ("StateVault$Kept", "number", "I", false)
  | 1 => ("StateVault$Kept", "form", "I", false)
  | 2 => ("StateVault$Kept", "sum", "I", false)
  | 3 => ("StateVault$Kept", "base", "I", false)
  | 4 => ("StateVault$Kept", "size", "I", false)
  | 5 => ("StateVault$Kept", "indexes", "[I", true)
  | _ => ("StateVault$Kept", "values", "[I", true)
def tyX0 : Nat → FieldType := fun k => match k with
  | 0 => .int
  | 1 => .int
  | 2 => .int
  | 3 => .int
  | 4 => .int
  | 5 => .array .int
  | _ => .array .int
abbrev wsX00 : List Cond := u_ws RX0 TX0 7
theorem nmX0 : ∀ a, a < 7 → ∀ b, b < 7 → a ≠ b → (TX0 a).2.1 ≠ (TX0 b).2.1 := by decide +kernel
theorem tyX0_ok : ∀ k, k < 7 → parseFieldDescriptor (TX0 k).2.2.1 = some (tyX0 k) := by decide +kernel
abbrev cX0_init : ByteArray := prog_2_method_1_code
def yX0_init : MethodName := ⟨RX0, "<init>", "()V"⟩
abbrev cX0_copyKept : ByteArray := prog_2_method_2_code
def yX0_copyKept : MethodName := ⟨RX0, "copyKept", "(LStateVault$Kept;)V"⟩
abbrev cX0_makeWhole : ByteArray := prog_2_method_3_code
def yX0_makeWhole : MethodName := ⟨RX0, "makeWhole", "([I)V"⟩
abbrev cX0_makeDifference : ByteArray := prog_2_method_4_code
def yX0_makeDifference : MethodName := ⟨RX0, "makeDifference", "(I[I[I)V"⟩
abbrev cX0_weight : ByteArray := prog_2_method_5_code
def yX0_weight : MethodName := ⟨RX0, "weight", "()I"⟩
def RX1 : String := "StateVault$Moment"
def TX1 : u_T := fun k => match k with
  | 0 => ("StateVault$Moment", "form", "I", false)
  | 1 => ("StateVault$Moment", "origin", "I", false)
  | 2 => ("StateVault$Moment", "came", "I", false)
  | 3 => ("StateVault$Moment", "size", "I", false)
  | 4 => ("StateVault$Moment", "values", "[I", true)
  | 5 => ("StateVault$Moment", "settings", "[I", true)
  | _ => ("StateVault$Moment", "places", "[LStateVault$Kept;", true)
def tyX1 : Nat → FieldType := fun k => match k with
  | 0 => .int
  | 1 => .int
  | 2 => .int
  | 3 => .int
  | 4 => .array .int
  | 5 => .array .int
  | _ => .array (.object "StateVault$Kept")
abbrev wsX10 : List Cond := u_ws RX1 TX1 7
theorem nmX1 : ∀ a, a < 7 → ∀ b, b < 7 → a ≠ b → (TX1 a).2.1 ≠ (TX1 b).2.1 := by decide +kernel
theorem tyX1_ok : ∀ k, k < 7 → parseFieldDescriptor (TX1 k).2.2.1 = some (tyX1 k) := by decide +kernel
abbrev cX1_init : ByteArray := prog_3_method_1_code
def yX1_init : MethodName := ⟨RX1, "<init>", "()V"⟩
abbrev cX1_copyFrom : ByteArray := prog_3_method_2_code
def yX1_copyFrom : MethodName := ⟨RX1, "copyFrom", "(LStateVault$Moment;)V"⟩
abbrev cX1_placeOf : ByteArray := prog_3_method_3_code
def yX1_placeOf : MethodName := ⟨RX1, "placeOf", "(I)I"⟩
abbrev cX1_baseOf : ByteArray := prog_3_method_4_code
def yX1_baseOf : MethodName := ⟨RX1, "baseOf", "(I)I"⟩
abbrev cX1_linksOf : ByteArray := prog_3_method_5_code
def yX1_linksOf : MethodName := ⟨RX1, "linksOf", "(I)I"⟩
abbrev cX1_longestChain : ByteArray := prog_3_method_6_code
def yX1_longestChain : MethodName := ⟨RX1, "longestChain", "()I"⟩
abbrev cX1_followersOf : ByteArray := prog_3_method_7_code
def yX1_followersOf : MethodName := ⟨RX1, "followersOf", "(I)I"⟩
abbrev cX1_wholeOnes : ByteArray := prog_3_method_8_code
def yX1_wholeOnes : MethodName := ⟨RX1, "wholeOnes", "()I"⟩
abbrev cX1_weight : ByteArray := prog_3_method_9_code
def yX1_weight : MethodName := ⟨RX1, "weight", "()I"⟩
abbrev cX1_removePlace : ByteArray := prog_3_method_10_code
def yX1_removePlace : MethodName := ⟨RX1, "removePlace", "(I)V"⟩
def RX2 : String := "StateVault$Reading"
def TX2 : u_T := fun k => match k with
  | 0 => ("StateVault$Reading", "found", "[[I", true)
  | _ => ("StateVault$Reading", "reasons", "[I", true)
def tyX2 : Nat → FieldType := fun k => match k with
  | 0 => .array (.array .int)
  | _ => .array .int
abbrev wsX20 : List Cond := u_ws RX2 TX2 2
theorem nmX2 : ∀ a, a < 2 → ∀ b, b < 2 → a ≠ b → (TX2 a).2.1 ≠ (TX2 b).2.1 := by decide +kernel
theorem tyX2_ok : ∀ k, k < 2 → parseFieldDescriptor (TX2 k).2.2.1 = some (tyX2 k) := by decide +kernel
abbrev cX2_init : ByteArray := prog_4_method_1_code
def yX2_init : MethodName := ⟨RX2, "<init>", "()V"⟩
abbrev cX2_readAll : ByteArray := prog_4_method_2_code
def yX2_readAll : MethodName := ⟨RX2, "readAll", "(LStateVault$Moment;)V"⟩
abbrev cX2_readPlace : ByteArray := prog_4_method_3_code
def yX2_readPlace : MethodName := ⟨RX2, "readPlace", "(LStateVault$Moment;I)I"⟩
def RX3 : String := "StateVault$Script"
def TX3 : u_T := fun k => match k with
  | 0 => ("StateVault$Script", "text", "[I", true)
  | 1 => ("StateVault$Script", "length", "I", false)
  | 2 => ("StateVault$Script", "values", "[I", true)
  | 3 => ("StateVault$Script", "size", "I", false)
  | 4 => ("StateVault$Script", "at", "I", false)
  | _ => ("StateVault$Script", "fault", "I", false)
def tyX3 : Nat → FieldType := fun k => match k with
  | 0 => .array .int
  | 1 => .int
  | 2 => .array .int
  | 3 => .int
  | 4 => .int
  | _ => .int
abbrev wsX30 : List Cond := u_ws RX3 TX3 6
theorem nmX3 : ∀ a, a < 6 → ∀ b, b < 6 → a ≠ b → (TX3 a).2.1 ≠ (TX3 b).2.1 := by decide +kernel
theorem tyX3_ok : ∀ k, k < 6 → parseFieldDescriptor (TX3 k).2.2.1 = some (tyX3 k) := by decide +kernel
abbrev cX3_init : ByteArray := prog_5_method_1_code
def yX3_init : MethodName := ⟨RX3, "<init>", "()V"⟩
abbrev cX3_run : ByteArray := prog_5_method_2_code
def yX3_run : MethodName := ⟨RX3, "run", "([II)I"⟩
abbrev cX3_runCommand : ByteArray := prog_5_method_3_code
def yX3_runCommand : MethodName := ⟨RX3, "runCommand", "(I)V"⟩
abbrev cX3_runSet : ByteArray := prog_5_method_4_code
def yX3_runSet : MethodName := ⟨RX3, "runSet", "()V"⟩
abbrev cX3_runAdd : ByteArray := prog_5_method_5_code
def yX3_runAdd : MethodName := ⟨RX3, "runAdd", "()V"⟩
abbrev cX3_runSwap : ByteArray := prog_5_method_6_code
def yX3_runSwap : MethodName := ⟨RX3, "runSwap", "()V"⟩
abbrev cX3_runFill : ByteArray := prog_5_method_7_code
def yX3_runFill : MethodName := ⟨RX3, "runFill", "()V"⟩
abbrev cX3_runTurn : ByteArray := prog_5_method_8_code
def yX3_runTurn : MethodName := ⟨RX3, "runTurn", "()V"⟩
abbrev cX3_failAt : ByteArray := prog_5_method_9_code
def yX3_failAt : MethodName := ⟨RX3, "failAt", "(I)V"⟩
abbrev cX3_isDigitNext : ByteArray := prog_5_method_10_code
def yX3_isDigitNext : MethodName := ⟨RX3, "isDigitNext", "()Z"⟩
abbrev cX3_isLetterNext : ByteArray := prog_5_method_11_code
def yX3_isLetterNext : MethodName := ⟨RX3, "isLetterNext", "()Z"⟩
abbrev cX3_isNext : ByteArray := prog_5_method_12_code
def yX3_isNext : MethodName := ⟨RX3, "isNext", "(I)Z"⟩
abbrev cX3_skipBlanks : ByteArray := prog_5_method_13_code
def yX3_skipBlanks : MethodName := ⟨RX3, "skipBlanks", "()V"⟩
abbrev cX3_takeWord : ByteArray := prog_5_method_14_code
def yX3_takeWord : MethodName := ⟨RX3, "takeWord", "()I"⟩
abbrev cX3_wordAt : ByteArray := prog_5_method_15_code
def yX3_wordAt : MethodName := ⟨RX3, "wordAt", "(I)I"⟩
abbrev cX3_isSpelled : ByteArray := prog_5_method_16_code
def yX3_isSpelled : MethodName := ⟨RX3, "isSpelled", "(Ljava/lang/String;I)Z"⟩
abbrev cX3_takeIndex : ByteArray := prog_5_method_17_code
def yX3_takeIndex : MethodName := ⟨RX3, "takeIndex", "(I)I"⟩
abbrev cX3_takeNumber : ByteArray := prog_5_method_18_code
def yX3_takeNumber : MethodName := ⟨RX3, "takeNumber", "()I"⟩
abbrev cX3_takeAmount : ByteArray := prog_5_method_19_code
def yX3_takeAmount : MethodName := ⟨RX3, "takeAmount", "()I"⟩
abbrev cX3_takeDigits : ByteArray := prog_5_method_20_code
def yX3_takeDigits : MethodName := ⟨RX3, "takeDigits", "()I"⟩
abbrev cX3_takeSemicolon : ByteArray := prog_5_method_21_code
def yX3_takeSemicolon : MethodName := ⟨RX3, "takeSemicolon", "()V"⟩
def RX4 : String := "StateVault"
def TX4 : u_T := fun k => match k with
  | 0 => ("StateVault", "now", "LStateVault$Moment;", true)
  | 1 => ("StateVault", "past", "[LStateVault$Moment;", true)
  | 2 => ("StateVault", "pastSize", "I", false)
  | 3 => ("StateVault", "script", "LStateVault$Script;", true)
  | 4 => ("StateVault", "reading", "LStateVault$Reading;", true)
  | 5 => ("StateVault", "first", "[I", true)
  | _ => ("StateVault", "second", "[I", true)
def tyX4 : Nat → FieldType := fun k => match k with
  | 0 => .object "StateVault$Moment"
  | 1 => .array (.object "StateVault$Moment")
  | 2 => .int
  | 3 => .object "StateVault$Script"
  | 4 => .object "StateVault$Reading"
  | 5 => .array .int
  | _ => .array .int
abbrev wsX40 : List Cond := u_ws RX4 TX4 7
theorem nmX4 : ∀ a, a < 7 → ∀ b, b < 7 → a ≠ b → (TX4 a).2.1 ≠ (TX4 b).2.1 := by decide +kernel
theorem tyX4_ok : ∀ k, k < 7 → parseFieldDescriptor (TX4 k).2.2.1 = some (tyX4 k) := by decide +kernel
abbrev cX4_init : ByteArray := prog_1_method_1_code
def yX4_init : MethodName := ⟨RX4, "<init>", "()V"⟩
abbrev cX4_type : ByteArray := prog_1_method_2_code
def yX4_type : MethodName := ⟨RX4, "type", "(I)I"⟩
abbrev cX4_clear : ByteArray := prog_1_method_3_code
def yX4_clear : MethodName := ⟨RX4, "clear", "()I"⟩
abbrev cX4_play : ByteArray := prog_1_method_4_code
def yX4_play : MethodName := ⟨RX4, "play", "()I"⟩
abbrev cX4_raise : ByteArray := prog_1_method_5_code
def yX4_raise : MethodName := ⟨RX4, "raise", "()I"⟩
abbrev cX4_keep : ByteArray := prog_1_method_6_code
def yX4_keep : MethodName := ⟨RX4, "keep", "()I"⟩
abbrev cX4_load : ByteArray := prog_1_method_7_code
def yX4_load : MethodName := ⟨RX4, "load", "(I)I"⟩
abbrev cX4_drop : ByteArray := prog_1_method_8_code
def yX4_drop : MethodName := ⟨RX4, "drop", "(IZ)I"⟩
abbrev cX4_alter : ByteArray := prog_1_method_9_code
def yX4_alter : MethodName := ⟨RX4, "alter", "(III)I"⟩
abbrev cX4_pack : ByteArray := prog_1_method_10_code
def yX4_pack : MethodName := ⟨RX4, "pack", "()I"⟩
abbrev cX4_set : ByteArray := prog_1_method_11_code
def yX4_set : MethodName := ⟨RX4, "set", "(II)I"⟩
abbrev cX4_undo : ByteArray := prog_1_method_12_code
def yX4_undo : MethodName := ⟨RX4, "undo", "()I"⟩
abbrev cX4_value : ByteArray := prog_1_method_13_code
def yX4_value : MethodName := ⟨RX4, "value", "(I)I"⟩
abbrev cX4_kept : ByteArray := prog_1_method_14_code
def yX4_kept : MethodName := ⟨RX4, "kept", "(II)I"⟩
abbrev cX4_entry : ByteArray := prog_1_method_15_code
def yX4_entry : MethodName := ⟨RX4, "entry", "(III)I"⟩
abbrev cX4_read : ByteArray := prog_1_method_16_code
def yX4_read : MethodName := ⟨RX4, "read", "(III)I"⟩
abbrev cX4_cause : ByteArray := prog_1_method_17_code
def yX4_cause : MethodName := ⟨RX4, "cause", "(III)I"⟩
abbrev cX4_apart : ByteArray := prog_1_method_18_code
def yX4_apart : MethodName := ⟨RX4, "apart", "(II)I"⟩
abbrev cX4_fork : ByteArray := prog_1_method_19_code
def yX4_fork : MethodName := ⟨RX4, "fork", "(II)I"⟩
abbrev cX4_nearest : ByteArray := prog_1_method_20_code
def yX4_nearest : MethodName := ⟨RX4, "nearest", "()I"⟩
abbrev cX4_count : ByteArray := prog_1_method_21_code
def yX4_count : MethodName := ⟨RX4, "count", "(I)I"⟩
abbrev cX4_digest : ByteArray := prog_1_method_22_code
def yX4_digest : MethodName := ⟨RX4, "digest", "()J"⟩
abbrev cX4_remember : ByteArray := prog_1_method_23_code
def yX4_remember : MethodName := ⟨RX4, "remember", "()V"⟩
abbrev cX4_baseForGame : ByteArray := prog_1_method_24_code
def yX4_baseForGame : MethodName := ⟨RX4, "baseForGame", "()I"⟩
abbrev cX4_canBeBase : ByteArray := prog_1_method_25_code
def yX4_canBeBase : MethodName := ⟨RX4, "canBeBase", "(II)Z"⟩
abbrev cX4_mendFollowers : ByteArray := prog_1_method_26_code
def yX4_mendFollowers : MethodName := ⟨RX4, "mendFollowers", "(I)V"⟩
abbrev cX4_packPlace : ByteArray := prog_1_method_27_code
def yX4_packPlace : MethodName := ⟨RX4, "packPlace", "(I)V"⟩
abbrev cX4_propertyOf : ByteArray := prog_1_method_28_code
def yX4_propertyOf : MethodName := ⟨RX4, "propertyOf", "(II)I"⟩
abbrev cX4_tally : ByteArray := prog_1_method_29_code
def yX4_tally : MethodName := ⟨RX4, "tally", "(I)I"⟩
abbrev cX4_unreadable : ByteArray := prog_1_method_30_code
def yX4_unreadable : MethodName := ⟨RX4, "unreadable", "()I"⟩
abbrev cX4_reasonOf : ByteArray := prog_1_method_31_code
def yX4_reasonOf : MethodName := ⟨RX4, "reasonOf", "(I)I"⟩
abbrev cX4_causeOf : ByteArray := prog_1_method_32_code
def yX4_causeOf : MethodName := ⟨RX4, "causeOf", "(III)I"⟩
abbrev cX4_nearestToGame : ByteArray := prog_1_method_33_code
def yX4_nearestToGame : MethodName := ⟨RX4, "nearestToGame", "()I"⟩
abbrev cX4_addPlace : ByteArray := prog_1_method_34_code
def yX4_addPlace : MethodName := ⟨RX4, "addPlace", "(JI)J"⟩
abbrev cX4_distance : ByteArray := prog_1_method_35_code
def yX4_distance : MethodName := ⟨RX4, "distance", "(II[I)I"⟩
abbrev cX4_raiseRead : ByteArray := prog_1_method_36_code
def yX4_raiseRead : MethodName := ⟨RX4, "raiseRead", "(II[I)V"⟩
abbrev cX4_sizeOf : ByteArray := prog_1_method_37_code
def yX4_sizeOf : MethodName := ⟨RX4, "sizeOf", "(I)I"⟩
abbrev cX4_sumOf : ByteArray := prog_1_method_38_code
def yX4_sumOf : MethodName := ⟨RX4, "sumOf", "([II)I"⟩
abbrev cX4_raiseValues : ByteArray := prog_1_method_39_code
def yX4_raiseValues : MethodName := ⟨RX4, "raiseValues", "([III)V"⟩
def RX5 : String := "StateVaultModel"
def TX5 : u_T := fun k => match k with
  | 0 => ("StateVaultModel", "m", "[I", true)
  | 1 => ("StateVaultModel", "past", "[I", true)
  | 2 => ("StateVaultModel", "undos", "I", false)
  | 3 => ("StateVaultModel", "v", "[I", true)
  | 4 => ("StateVaultModel", "form", "I", false)
  | 5 => ("StateVaultModel", "chain", "[I", true)
  | 6 => ("StateVaultModel", "reason", "[I", true)
  | 7 => ("StateVaultModel", "links", "I", false)
  | 8 => ("StateVaultModel", "w", "[I", true)
  | 9 => ("StateVaultModel", "text", "[I", true)
  | 10 => ("StateVaultModel", "textLength", "I", false)
  | 11 => ("StateVaultModel", "at", "I", false)
  | 12 => ("StateVaultModel", "fault", "I", false)
  | 13 => ("StateVaultModel", "command", "[I", true)
  | 14 => ("StateVaultModel", "commands", "I", false)
  | 15 => ("StateVaultModel", "isPacked", "[Z", true)
  | _ => ("StateVaultModel", "hash", "J", false)
def tyX5 : Nat → FieldType := fun k => match k with
  | 0 => .array .int
  | 1 => .array .int
  | 2 => .int
  | 3 => .array .int
  | 4 => .int
  | 5 => .array .int
  | 6 => .array .int
  | 7 => .int
  | 8 => .array .int
  | 9 => .array .int
  | 10 => .int
  | 11 => .int
  | 12 => .int
  | 13 => .array .int
  | 14 => .int
  | 15 => .array .boolean
  | _ => .long
abbrev wsX50 : List Cond := u_ws RX5 TX5 17
theorem nmX5 : ∀ a, a < 17 → ∀ b, b < 17 → a ≠ b → (TX5 a).2.1 ≠ (TX5 b).2.1 := by decide +kernel
theorem tyX5_ok : ∀ k, k < 17 → parseFieldDescriptor (TX5 k).2.2.1 = some (tyX5 k) := by decide +kernel
abbrev cX5_init : ByteArray := prog_7_method_1_code
def yX5_init : MethodName := ⟨RX5, "<init>", "()V"⟩
abbrev cX5_in : ByteArray := prog_7_method_2_code
def yX5_in : MethodName := ⟨RX5, "in", "(III)Z"⟩
abbrev cX5_valuesOf : ByteArray := prog_7_method_3_code
def yX5_valuesOf : MethodName := ⟨RX5, "valuesOf", "(I)I"⟩
abbrev cX5_of : ByteArray := prog_7_method_4_code
def yX5_of : MethodName := ⟨RX5, "of", "(II)I"⟩
abbrev cX5_put : ByteArray := prog_7_method_5_code
def yX5_put : MethodName := ⟨RX5, "put", "(III)V"⟩
abbrev cX5_isWhole : ByteArray := prog_7_method_6_code
def yX5_isWhole : MethodName := ⟨RX5, "isWhole", "(I)Z"⟩
abbrev cX5_keeps : ByteArray := prog_7_method_7_code
def yX5_keeps : MethodName := ⟨RX5, "keeps", "()V"⟩
abbrev cX5_undo : ByteArray := prog_7_method_8_code
def yX5_undo : MethodName := ⟨RX5, "undo", "()I"⟩
abbrev cX5_slotOf : ByteArray := prog_7_method_9_code
def yX5_slotOf : MethodName := ⟨RX5, "slotOf", "(I)I"⟩
abbrev cX5_raises : ByteArray := prog_7_method_10_code
def yX5_raises : MethodName := ⟨RX5, "raises", "()V"⟩
abbrev cX5_raisesTo : ByteArray := prog_7_method_11_code
def yX5_raisesTo : MethodName := ⟨RX5, "raisesTo", "(I)V"⟩
abbrev cX5_sumNow : ByteArray := prog_7_method_12_code
def yX5_sumNow : MethodName := ⟨RX5, "sumNow", "()I"⟩
abbrev cX5_takesGame : ByteArray := prog_7_method_13_code
def yX5_takesGame : MethodName := ⟨RX5, "takesGame", "()V"⟩
abbrev cX5_givesGame : ByteArray := prog_7_method_14_code
def yX5_givesGame : MethodName := ⟨RX5, "givesGame", "()V"⟩
abbrev cX5_climbs : ByteArray := prog_7_method_15_code
def yX5_climbs : MethodName := ⟨RX5, "climbs", "(I)V"⟩
abbrev cX5_reads : ByteArray := prog_7_method_16_code
def yX5_reads : MethodName := ⟨RX5, "reads", "(I)Z"⟩
abbrev cX5_linksOf : ByteArray := prog_7_method_17_code
def yX5_linksOf : MethodName := ⟨RX5, "linksOf", "(I)I"⟩
abbrev cX5_setsAside : ByteArray := prog_7_method_18_code
def yX5_setsAside : MethodName := ⟨RX5, "setsAside", "()V"⟩
abbrev cX5_differences : ByteArray := prog_7_method_19_code
def yX5_differences : MethodName := ⟨RX5, "differences", "(I)I"⟩
abbrev cX5_writesWhole : ByteArray := prog_7_method_20_code
def yX5_writesWhole : MethodName := ⟨RX5, "writesWhole", "(I)V"⟩
abbrev cX5_writesDifference : ByteArray := prog_7_method_21_code
def yX5_writesDifference : MethodName := ⟨RX5, "writesDifference", "(II)V"⟩
abbrev cX5_type : ByteArray := prog_7_method_22_code
def yX5_type : MethodName := ⟨RX5, "type", "(I)I"⟩
abbrev cX5_clear : ByteArray := prog_7_method_23_code
def yX5_clear : MethodName := ⟨RX5, "clear", "()I"⟩
abbrev cX5_next : ByteArray := prog_7_method_24_code
def yX5_next : MethodName := ⟨RX5, "next", "()I"⟩
abbrev cX5_isDigit : ByteArray := prog_7_method_25_code
def yX5_isDigit : MethodName := ⟨RX5, "isDigit", "()Z"⟩
abbrev cX5_skips : ByteArray := prog_7_method_26_code
def yX5_skips : MethodName := ⟨RX5, "skips", "()V"⟩
abbrev cX5_fails : ByteArray := prog_7_method_27_code
def yX5_fails : MethodName := ⟨RX5, "fails", "(I)V"⟩
abbrev cX5_number : ByteArray := prog_7_method_28_code
def yX5_number : MethodName := ⟨RX5, "number", "(II)I"⟩
abbrev cX5_amount : ByteArray := prog_7_method_29_code
def yX5_amount : MethodName := ⟨RX5, "amount", "()I"⟩
abbrev cX5_isWord : ByteArray := prog_7_method_30_code
def yX5_isWord : MethodName := ⟨RX5, "isWord", "(III)Z"⟩
abbrev cX5_wordOf : ByteArray := prog_7_method_31_code
def yX5_wordOf : MethodName := ⟨RX5, "wordOf", "(I)I"⟩
abbrev cX5_readsCommand : ByteArray := prog_7_method_32_code
def yX5_readsCommand : MethodName := ⟨RX5, "readsCommand", "()V"⟩
abbrev cX5_readsScript : ByteArray := prog_7_method_33_code
def yX5_readsScript : MethodName := ⟨RX5, "readsScript", "()V"⟩
abbrev cX5_turns : ByteArray := prog_7_method_34_code
def yX5_turns : MethodName := ⟨RX5, "turns", "(II)V"⟩
abbrev cX5_does : ByteArray := prog_7_method_35_code
def yX5_does : MethodName := ⟨RX5, "does", "(I)V"⟩
abbrev cX5_play : ByteArray := prog_7_method_36_code
def yX5_play : MethodName := ⟨RX5, "play", "()I"⟩
abbrev cX5_raise : ByteArray := prog_7_method_37_code
def yX5_raise : MethodName := ⟨RX5, "raise", "()I"⟩
abbrev cX5_isNear : ByteArray := prog_7_method_38_code
def yX5_isNear : MethodName := ⟨RX5, "isNear", "()Z"⟩
abbrev cX5_keep : ByteArray := prog_7_method_39_code
def yX5_keep : MethodName := ⟨RX5, "keep", "()I"⟩
abbrev cX5_load : ByteArray := prog_7_method_40_code
def yX5_load : MethodName := ⟨RX5, "load", "(I)I"⟩
abbrev cX5_basedOn : ByteArray := prog_7_method_41_code
def yX5_basedOn : MethodName := ⟨RX5, "basedOn", "(I)I"⟩
abbrev cX5_drop : ByteArray := prog_7_method_42_code
def yX5_drop : MethodName := ⟨RX5, "drop", "(IZ)I"⟩
abbrev cX5_alter : ByteArray := prog_7_method_43_code
def yX5_alter : MethodName := ⟨RX5, "alter", "(III)I"⟩
abbrev cX5_weight : ByteArray := prog_7_method_44_code
def yX5_weight : MethodName := ⟨RX5, "weight", "(I)I"⟩
abbrev cX5_weights : ByteArray := prog_7_method_45_code
def yX5_weights : MethodName := ⟨RX5, "weights", "()I"⟩
abbrev cX5_nearestBase : ByteArray := prog_7_method_46_code
def yX5_nearestBase : MethodName := ⟨RX5, "nearestBase", "(I)I"⟩
abbrev cX5_pack : ByteArray := prog_7_method_47_code
def yX5_pack : MethodName := ⟨RX5, "pack", "()I"⟩
abbrev cX5_set : ByteArray := prog_7_method_48_code
def yX5_set : MethodName := ⟨RX5, "set", "(II)I"⟩
abbrev cX5_value : ByteArray := prog_7_method_49_code
def yX5_value : MethodName := ⟨RX5, "value", "(I)I"⟩
abbrev cX5_part : ByteArray := prog_7_method_50_code
def yX5_part : MethodName := ⟨RX5, "part", "(II)I"⟩
abbrev cX5_kept : ByteArray := prog_7_method_51_code
def yX5_kept : MethodName := ⟨RX5, "kept", "(II)I"⟩
abbrev cX5_entry : ByteArray := prog_7_method_52_code
def yX5_entry : MethodName := ⟨RX5, "entry", "(III)I"⟩
abbrev cX5_read : ByteArray := prog_7_method_53_code
def yX5_read : MethodName := ⟨RX5, "read", "(III)I"⟩
abbrev cX5_cause : ByteArray := prog_7_method_54_code
def yX5_cause : MethodName := ⟨RX5, "cause", "(III)I"⟩
abbrev cX5_apart : ByteArray := prog_7_method_55_code
def yX5_apart : MethodName := ⟨RX5, "apart", "(II)I"⟩
abbrev cX5_isInChain : ByteArray := prog_7_method_56_code
def yX5_isInChain : MethodName := ⟨RX5, "isInChain", "(I)Z"⟩
abbrev cX5_fork : ByteArray := prog_7_method_57_code
def yX5_fork : MethodName := ⟨RX5, "fork", "(II)I"⟩
abbrev cX5_nearest : ByteArray := prog_7_method_58_code
def yX5_nearest : MethodName := ⟨RX5, "nearest", "()I"⟩
abbrev cX5_counts : ByteArray := prog_7_method_59_code
def yX5_counts : MethodName := ⟨RX5, "counts", "(I)I"⟩
abbrev cX5_longest : ByteArray := prog_7_method_60_code
def yX5_longest : MethodName := ⟨RX5, "longest", "()I"⟩
abbrev cX5_count : ByteArray := prog_7_method_61_code
def yX5_count : MethodName := ⟨RX5, "count", "(I)I"⟩
abbrev cX5_mixes : ByteArray := prog_7_method_62_code
def yX5_mixes : MethodName := ⟨RX5, "mixes", "(J)V"⟩
abbrev cX5_mixesKept : ByteArray := prog_7_method_63_code
def yX5_mixesKept : MethodName := ⟨RX5, "mixesKept", "(I)V"⟩
abbrev cX5_digest : ByteArray := prog_7_method_64_code
def yX5_digest : MethodName := ⟨RX5, "digest", "()J"⟩
def RJ9 : String := "java/lang/Math"
def TJ9 : u_T := fun k => match k with
  | _ => ("", "", "", false)
def tyJ9 : Nat → FieldType := fun k => match k with
  | _ => .int
abbrev wsJ90 : List Cond := u_ws RJ9 TJ9 0
theorem nmJ9 : ∀ a, a < 0 → ∀ b, b < 0 → a ≠ b → (TJ9 a).2.1 ≠ (TJ9 b).2.1 := by decide +kernel
theorem tyJ9_ok : ∀ k, k < 0 → parseFieldDescriptor (TJ9 k).2.2.1 = some (tyJ9 k) := by decide +kernel
abbrev cJ9_max_7cf53 : ByteArray := prog_8_method_65_code
def yJ9_max_7cf53 : MethodName := ⟨RJ9, "max", "(II)I"⟩
abbrev cJ9_min_7cf53 : ByteArray := prog_8_method_69_code
def yJ9_min_7cf53 : MethodName := ⟨RJ9, "min", "(II)I"⟩
def RJ0 : String := "java/lang/String"
def TJ0 : u_T := fun k => match k with
  | _ => ("", "", "", false)
def tyJ0 : Nat → FieldType := fun k => match k with
  | _ => .int
abbrev wsJ00 : List Cond := u_ws RJ0 TJ0 0
theorem nmJ0 : ∀ a, a < 0 → ∀ b, b < 0 → a ≠ b → (TJ0 a).2.1 ≠ (TJ0 b).2.1 := by decide +kernel
theorem tyJ0_ok : ∀ k, k < 0 → parseFieldDescriptor (TJ0 k).2.2.1 = some (tyJ0 k) := by decide +kernel
abbrev cJ0_length_8abf5 : ByteArray := prog_9_method_54_code
def yJ0_length_8abf5 : MethodName := ⟨RJ0, "length", "()I"⟩
abbrev cJ0_charAt_5068e : ByteArray := prog_9_method_56_code
def yJ0_charAt_5068e : MethodName := ⟨RJ0, "charAt", "(I)C"⟩
abbrev cJ0_coder_7d493 : ByteArray := prog_9_method_152_code
def yJ0_coder_7d493 : MethodName := ⟨RJ0, "coder", "()B"⟩
abbrev cJ0_isLatin1_aae02 : ByteArray := prog_9_method_154_code
def yJ0_isLatin1_aae02 : MethodName := ⟨RJ0, "isLatin1", "()Z"⟩
abbrev cJ0_checkIndex_df160 : ByteArray := prog_9_method_155_code
def yJ0_checkIndex_df160 : MethodName := ⟨RJ0, "checkIndex", "(II)V"⟩
def RJ1 : String := "java/lang/StringLatin1"
def TJ1 : u_T := fun k => match k with
  | _ => ("", "", "", false)
def tyJ1 : Nat → FieldType := fun k => match k with
  | _ => .int
abbrev wsJ10 : List Cond := u_ws RJ1 TJ1 0
theorem nmJ1 : ∀ a, a < 0 → ∀ b, b < 0 → a ≠ b → (TJ1 a).2.1 ≠ (TJ1 b).2.1 := by decide +kernel
theorem tyJ1_ok : ∀ k, k < 0 → parseFieldDescriptor (TJ1 k).2.2.1 = some (tyJ1 k) := by decide +kernel
abbrev cJ1_charAt_3b067 : ByteArray := prog_10_method_2_code
def yJ1_charAt_3b067 : MethodName := ⟨RJ1, "charAt", "([BI)C"⟩
def RJ2 : String := "java/lang/StringUTF16"
def TJ2 : u_T := fun k => match k with
  | _ => ("", "", "", false)
def tyJ2 : Nat → FieldType := fun k => match k with
  | _ => .int
abbrev wsJ20 : List Cond := u_ws RJ2 TJ2 0
theorem nmJ2 : ∀ a, a < 0 → ∀ b, b < 0 → a ≠ b → (TJ2 a).2.1 ≠ (TJ2 b).2.1 := by decide +kernel
theorem tyJ2_ok : ∀ k, k < 0 → parseFieldDescriptor (TJ2 k).2.2.1 = some (tyJ2 k) := by decide +kernel
abbrev cJ2_getChar_3b067 : ByteArray := prog_11_method_5_code
def yJ2_getChar_3b067 : MethodName := ⟨RJ2, "getChar", "([BI)C"⟩
abbrev cJ2_length_9d52b : ByteArray := prog_11_method_6_code
def yJ2_length_9d52b : MethodName := ⟨RJ2, "length", "([B)I"⟩
abbrev cJ2_charAt_3b067 : ByteArray := prog_11_method_83_code
def yJ2_charAt_3b067 : MethodName := ⟨RJ2, "charAt", "([BI)C"⟩
abbrev cJ2_checkIndex_2214a : ByteArray := prog_11_method_91_code
def yJ2_checkIndex_2214a : MethodName := ⟨RJ2, "checkIndex", "(I[B)V"⟩
def RJ10 : String := "java/lang/System"
def TJ10 : u_T := fun k => match k with
  | _ => ("", "", "", false)
def tyJ10 : Nat → FieldType := fun k => match k with
  | _ => .int
abbrev wsJ100 : List Cond := u_ws RJ10 TJ10 0
theorem nmJ10 : ∀ a, a < 0 → ∀ b, b < 0 → a ≠ b → (TJ10 a).2.1 ≠ (TJ10 b).2.1 := by decide +kernel
theorem tyJ10_ok : ∀ k, k < 0 → parseFieldDescriptor (TJ10 k).2.2.1 = some (tyJ10 k) := by decide +kernel
def RJ3 : String := "jdk/internal/util/Preconditions"
def TJ3 : u_T := fun k => match k with
  | _ => ("", "", "", false)
def tyJ3 : Nat → FieldType := fun k => match k with
  | _ => .int
abbrev wsJ30 : List Cond := u_ws RJ3 TJ3 0
theorem nmJ3 : ∀ a, a < 0 → ∀ b, b < 0 → a ≠ b → (TJ3 a).2.1 ≠ (TJ3 b).2.1 := by decide +kernel
theorem tyJ3_ok : ∀ k, k < 0 → parseFieldDescriptor (TJ3 k).2.2.1 = some (tyJ3 k) := by decide +kernel
abbrev cJ3_checkIndex_8e157 : ByteArray := prog_13_method_11_code
def yJ3_checkIndex_8e157 : MethodName := ⟨RJ3, "checkIndex", "(IILjava/util/function/BiFunction;)I"⟩
def RL : String := "StateVaultLaw"
abbrev cL_law : ByteArray := code
def yL_law : MethodName := ⟨RL, "law", "([I)Z"⟩
abbrev vwCl : List vw_C := [(RX0, TX0, 7), (RX1, TX1, 7), (RX2, TX2, 2), (RX3, TX3, 6), (RX4, TX4, 7), (RX5, TX5, 17)]

set_option maxRecDepth 20000 in
theorem inX0 : ∀ w ∈ wsX00, w ∈ lw_tbl := by decide +kernel
set_option maxRecDepth 20000 in
theorem inX1 : ∀ w ∈ wsX10, w ∈ lw_tbl := by decide +kernel
set_option maxRecDepth 20000 in
theorem inX2 : ∀ w ∈ wsX20, w ∈ lw_tbl := by decide +kernel
set_option maxRecDepth 20000 in
theorem inX3 : ∀ w ∈ wsX30, w ∈ lw_tbl := by decide +kernel
set_option maxRecDepth 20000 in
theorem inX4 : ∀ w ∈ wsX40, w ∈ lw_tbl := by decide +kernel
set_option maxRecDepth 20000 in
theorem inX5 : ∀ w ∈ wsX50, w ∈ lw_tbl := by decide +kernel
end
section
/-! the two objects' cells by places: the place i is the address (base + i) -/
abbrev sv_V : Type := Int ⊕ Option Nat ⊕ (Int64 ⊕ Nat)
abbrev sv_F : Type := Nat → Int → Int
abbrev sv_R : Type := Nat → Int → Option Nat
abbrev sv_G : Type := Nat → Int → Int64
abbrev sv_S : Type := Nat × (Nat → Nat × Nat)
/-- base; the classes' table; the arrays' classes; the script: address, length, ints; the five texts' addresses and their bytes' -/
abbrev sv_X : Type := Nat × va_G × (Nat → ClassId) × (Nat × Nat × (Nat → Int32)) × (Nat → Nat) × (Nat → Nat)
abbrev sv_M : Type := MethodName × ByteArray × Nat × Option FieldType
abbrev sv_L : Type := List (Option sv_V)
abbrev sv_in (a : Int) : Prop := -2147483648 ≤ a ∧ a ≤ 2147483647
abbrev sv_i (a : Int) : sv_V := .inl a
abbrev sv_r (i : Nat) : sv_V := .inr (.inl (some i))
abbrev sv_n : sv_V := .inr (.inl none)
abbrev sv_l (x : Int64) : sv_V := .inr (.inr (.inl x))
abbrev sv_w (a : Nat) : sv_V := .inr (.inr (.inr a))
def sv_cv (b : Nat) (v : sv_V) : Value := match v with
  | .inl a => .int (Int32.ofInt a)
  | .inr (.inl o) => va_rf (o.map (b + ·))
  | .inr (.inr (.inl x)) => .long x
  | .inr (.inr (.inr a)) => .ref a
def sv_ty (ci k : Nat) : FieldType := match ci with
  | 0 => tyX0 k
  | 1 => tyX1 k
  | 2 => tyX2 k
  | 3 => tyX3 k
  | 4 => tyX4 k
  | _ => tyX5 k
def sv_cn (ci : Nat) : Nat := match ci with
  | 0 => 7
  | 1 => 7
  | 2 => 2
  | 3 => 6
  | 4 => 7
  | _ => 17
def sv_fv (b : Nat) (ty : FieldType) (a : Int) (o : Option Nat) (x : Int64) : Value := match ty with
  | .int => .int (Int32.ofInt a)
  | .long => .long x
  | _ => va_rf (o.map (b + ·))
def sv_fs (b ci : Nat) (fi : Int → Int) (ri : Int → Option Nat) (gi : Int → Int64) : List Value := (List.range (sv_cn ci)).map (fun k => sv_fv b (sv_ty ci k) (fi k) (ri k) (gi k))
def sv_e (X : sv_X) (kn : Nat × Nat) (fi : Int → Int) (ri : Int → Option Nat) (gi : Int → Int64) : va_E :=
  if kn.1 < 6 then .inr (kn.1, sv_fs X.1 kn.1 fi ri gi)
  else if kn.1 < 8 then .inl (X.2.2.1 (kn.1 - 6), kn.2, .inl (fun j => Int32.ofInt (fi (j : Int))))
  else .inl (X.2.2.1 (kn.1 - 6), kn.2, .inr (.inr (.inr (.inr (fun j => (ri (j : Int)).map (X.1 + ·))))))
def sv_tys (X : sv_X) : List (ClassId × FieldType) := [(X.2.2.1 0, .int), (X.2.2.1 1, .boolean), (X.2.2.1 2, .object "StateVault$Kept"), (X.2.2.1 3, .object "StateVault$Moment"), (X.2.2.1 4, .array .int)]
def sv_ws (X : sv_X) (S : sv_S) (f : sv_F) (r : sv_R) (g : sv_G) : va_W := (List.range S.1).map (fun i => (X.1 + i, sv_e X (S.2 i) (f i) (r i) (g i)))
theorem sv_ws_get {X : sv_X} {S : sv_S} {f : sv_F} {r : sv_R} {g : sv_G} {i : Nat} (h : i < S.1) : (sv_ws X S f r g)[i]? = some (X.1 + i, sv_e X (S.2 i) (f i) (r i) (g i)) := by
  simp [sv_ws, List.getElem?_map, List.getElem?_range h]
theorem sv_ws_none {X : sv_X} {S : sv_S} {f : sv_F} {r : sv_R} {g : sv_G} {i : Nat} (h : ¬ i < S.1) : (sv_ws X S f r g)[i]? = none := by
  simp [sv_ws]; omega
theorem sv_ws_len {X : sv_X} {S : sv_S} {f : sv_F} {r : sv_R} {g : sv_G} : (sv_ws X S f r g).length = S.1 := by simp [sv_ws]
theorem sv_ws_set {X : sv_X} {S : sv_S} {f f' : sv_F} {r r' : sv_R} {g g' : sv_G} {i : Nat} {e : va_E} (he : i < S.1 → e = sv_e X (S.2 i) (f' i) (r' i) (g' i)) (hf : ∀ j, j ≠ i → f' j = f j) (hr : ∀ j, j ≠ i → r' j = r j) (hg : ∀ j, j ≠ i → g' j = g j) :
    (sv_ws X S f r g).set i (X.1 + i, e) = sv_ws X S f' r' g' := by
  apply List.ext_getElem?
  intro j
  by_cases hj : j < S.1
  · by_cases hij : j = i
    · subst hij
      rw [List.getElem?_set_self (by rw [sv_ws_len]; exact hj), sv_ws_get hj, he hj]
    · rw [List.getElem?_set_ne (Ne.symm hij), sv_ws_get hj, sv_ws_get hj, hf j hij, hr j hij, hg j hij]
  · rw [sv_ws_none hj, List.getElem?_eq_none (by rw [List.length_set, sv_ws_len]; omega)]
theorem sv_ws_D {X : sv_X} {S : sv_S} {f : sv_F} {r : sv_R} {g : sv_G} : va_D (fun q : Nat => X.1 ≤ q) (sv_ws X S f r g) := by
  have key : ∀ (k : Nat) (q : Nat × va_E), (sv_ws X S f r g)[k]? = some q → q.1 = X.1 + k := by
    intro k q h
    by_cases hk : k < S.1
    · rw [sv_ws_get hk] at h
      rw [← Option.some.inj h]
    · rw [sv_ws_none hk] at h
      cases h
  refine ⟨fun i j p q hi hj hpq => ?_, fun k q h => ?_⟩
  · have h1 := key i p hi
    have h2 := key j q hj
    omega
  · have h1 := key k q h
    show X.1 ≤ q.1
    omega
/-- the heap holds the cells -/
def sv_P (X : sv_X) (S : sv_S) (f : sv_F) (r : sv_R) (g : sv_G) (H : Heap) : Prop := va_P X.2.1 vwCl (sv_ws X S f r g) H ∧ H.size = X.1 + S.1 ∧ (∀ i j, sv_in (f i j)) ∧ ∀ i, (S.2 i).2 ≤ 100000
def sv_lens : List Nat := [3, 3, 4, 4, 4]
def sv_byts : List (List Int32) := [[115, 101, 116], [97, 100, 100], [115, 119, 97, 112], [102, 105, 108, 108], [116, 117, 114, 110]]
def sv_txt (i : Nat) : Nat × String := match i with
  | 0 => (95, "set")
  | 1 => (101, "add")
  | 2 => (103, "swap")
  | 3 => (105, "fill")
  | _ => (107, "turn")
/-- what lies below the base and stays -/
def sv_O (X : sv_X) (U : State) (H : Heap) : Prop := (va_X X.2.2.2.1.1 X.2.2.2.1.2.1 X.2.2.2.1.2.2 U H ∧ X.2.2.2.1.1 < X.1 ∧ X.2.2.2.1.2.1 ≤ 2048 ∧ X.2.2.2.1.1 < H.size) ∧ vk_S 5 sv_lens sv_byts X.2.2.2.2.1 X.2.2.2.2.2 (fun q => X.1 ≤ q) U H ∧ (∀ i, i < 5 → vk_R "StateVault$Script" (sv_txt i).1 (sv_txt i).2 (X.2.2.2.2.1 i) U) ∧ va_Z "java/lang/String" "COMPACT_STRINGS" "Z" (.int 1) (fun q => X.1 ≤ q) U H ∧ ∃ q : Nat, va_Z "jdk/internal/util/Preconditions" "SIOOBE_FORMATTER" "Ljava/util/function/BiFunction;" (.ref q) (fun q => X.1 ≤ q) U H
def sv_ok (w : Cond) : Bool := (w.onTables && w.keeps) || match w with
  | .fieldLinkNest _ _ _ _ _ _ => true
  | .methodLinkNest _ _ _ _ => true
  | .arrayClass _ => true
  | _ => false
def sv_W (U : State) : Prop := ∀ w ∈ lw_tbl, sv_ok w = true → w.before #[] U = true
theorem sv_W.go {s U : State} (h : sv_W s) (hW : s.WarmedH U.vm) {A : Array Value} {w : Cond} (hw : w ∈ lw_tbl) (ho : sv_ok w = true) : w.before A U = true := by
  have h0 := h w hw ho
  unfold sv_ok at ho
  rcases Bool.or_eq_true _ _ ▸ ho with h1 | h1
  · exact word_at hW (Or.inl h1) h0
  · cases w with
    | fieldLinkNest a i b n d h' => exact (va_Nw.warmF hW h0).use rfl
    | methodLinkNest a i x h' => exact (va_Nw.warmM hW h0).use rfl
    | arrayClass ty => exact word_at hW (Or.inr ⟨_, rfl⟩) h0
    | _ => simp at h1
theorem sv_W.use {s : State} (h : sv_W s) {A : Array Value} {w : Cond} (hw : w ∈ lw_tbl) (ho : sv_ok w = true) : w.before A s = true := h.go (State.WarmedH.refl s) hw ho
theorem sv_W.moved {s U : State} (h : sv_W s) (hW : s.WarmedH U.vm) : sv_W U := fun _ hw ho => h.go hW hw ho
theorem sv_O.kept {X : sv_X} {U : State} {H H1 : Heap} (h : sv_O X U H) (hz : H.size ≤ H1.size) (hq : ∀ a : Nat, a < H.size → ¬ X.1 ≤ a → H1[a]? = H[a]?) : sv_O X U H1 := by
  obtain ⟨⟨h1, h2, h3, h4⟩, h5, h6, h7, q, h8⟩ := h
  exact ⟨⟨h1.kept (hq _ h4 (by omega)), h2, h3, by omega⟩, h5.kept hq, h6, h7.kept hq, q, h8.kept hq⟩
theorem sv_O.moved {X : sv_X} {s U : State} {H : Heap} (h : sv_O X s H) (hW : s.WarmedH U.vm) : sv_O X U H := by
  obtain ⟨⟨h1, h2, h3, h4⟩, h5, h6, h7, q, h8⟩ := h
  exact ⟨⟨h1.moved hW.alike, h2, h3, h4⟩, h5.moved hW.alike, fun i hi => (h6 i hi).warm hW, h7.moved hW.alike, q, h8.moved hW.alike⟩
/-- what every method is told of the machine -/
def sv_K (X : sv_X) (U : State) (H : Heap) : Prop := sv_W U ∧ va_K X.2.1 vwCl (sv_tys X) U ∧ sv_O X U H ∧ va_AO "StateVault$Kept" U ∧ va_AO "StateVault$Moment" U
theorem sv_K.moved {X : sv_X} {s U : State} {H : Heap} (h : sv_K X s H) (hW : s.WarmedH U.vm) : sv_K X U H := ⟨h.1.moved hW, h.2.1.moved hW.alike, h.2.2.1.moved hW, h.2.2.2.1.moved hW.alike, h.2.2.2.2.moved hW.alike⟩
theorem sv_K.kept {X : sv_X} {s : State} {H H1 : Heap} (h : sv_K X s H) (hz : H.size ≤ H1.size) (hq : ∀ a : Nat, a < H.size → ¬ X.1 ≤ a → H1[a]? = H[a]?) : sv_K X s H1 := ⟨h.1, h.2.1, h.2.2.1.kept hz hq, h.2.2.2⟩
/-- the locals -/
def sv_H (b : Nat) (la : Array Slot) (nL : Nat) (ls : sv_L) : Prop := la.size = nL ∧ lv_wf la ∧ ∀ (i : Nat) (v : sv_V), ls[i]? = some (some v) → la[i]? = some (.val (sv_cv b v))
def sv_Fx (X : sv_X) (M : sv_M) (p : Program) (s : State) (m : MethodId) (meth : Method) (c : Code) : Prop := p.tables.exec = Jvm.exec ∧ c.code = M.2.1 ∧ meth.sig.returnType = M.2.2.2 ∧ c.maxLocals = M.2.2.1 ∧ s.vm.findClass M.1.cls = some m.cls ∧ meth.locks = false ∧ meth.name = M.1.name ∧ sv_K X s s.heap ∧ X.1 ≤ s.heap.size
abbrev sv_Z : Type := List Frame → Array Value → State → State → Prop
def sv_T (X : sv_X) (R : Room) (M : sv_M) (Z : sv_Z) (kc ks : Nat) (pc : Nat) (ls : sv_L) (st : List sv_V) (S : sv_S) (f : sv_F) (r : sv_R) (g : sv_G) : Prop :=
  ∀ (p : Program) (l : Launch) (e : Env) (s : State) (m : MethodId) (args : Array Value) (below : List Frame) (meth : Method) (c : Code) (H : Heap) (locs : List Loc) (la : Array Slot), sv_Fx X M p s m meth c → sv_P X S f r g H → va_S (fun q => X.1 ≤ q) s.heap H locs → sv_H X.1 la M.2.2.1 ls →
    W p l e R s m args below meth c H locs kc ks (Z below args s) (F0 m pc la (st.map (sv_cv X.1)))
end
section
section SVROWS
variable {X : sv_X} {R : Room} {M : sv_M} {Z : sv_Z} {kc ks : Nat} {pc : Nat} {ls : sv_L} {st : List sv_V} {S : sv_S} {f : sv_F} {r : sv_R} {g : sv_G}
theorem sv_iconst {n : Int} (hd : decode M.2.1 pc = .ok (.iconst n, 1)) (k : sv_T X R M Z kc ks (pc + 1) ls (sv_i n :: st) S f r g) : sv_T X R M Z kc ks pc ls st S f r g := by
  intro p l e s m args below meth c H locs la hF hP hS hH
  exact lv_iconst hF.1 hF.2.1 hd rfl (k p l e s m args below meth c H locs la hF hP hS hH)
theorem sv_bipush {n : Int} (hd : decode M.2.1 pc = .ok (.bipush n, 2)) (hv : (Int8.ofInt n).toInt32 = Int32.ofInt n) (k : sv_T X R M Z kc ks (pc + 2) ls (sv_i n :: st) S f r g) : sv_T X R M Z kc ks pc ls st S f r g := by
  intro p l e s m args below meth c H locs la hF hP hS hH
  exact lv_bipush hF.1 hF.2.1 hd hv (k p l e s m args below meth c H locs la hF hP hS hH)
theorem sv_sipush {n : Int} (hd : decode M.2.1 pc = .ok (.sipush n, 3)) (hv : (Int16.ofInt n).toInt32 = Int32.ofInt n) (k : sv_T X R M Z kc ks (pc + 3) ls (sv_i n :: st) S f r g) : sv_T X R M Z kc ks pc ls st S f r g := by
  intro p l e s m args below meth c H locs la hF hP hS hH
  exact lv_sipush hF.1 hF.2.1 hd hv (k p l e s m args below meth c H locs la hF hP hS hH)
theorem sv_ldc {n : Int} {i : Nat} (hd : decode M.2.1 pc = .ok (.ldc i, 2)) (hw : Cond.constant M.1.cls i (Int32.ofInt n) ∈ lw_tbl) (k : sv_T X R M Z kc ks (pc + 2) ls (sv_i n :: st) S f r g) : sv_T X R M Z kc ks pc ls st S f r g := by
  intro p l e s m args below meth c H locs la hF hP hS hH
  exact lv_ldc hF.1 hF.2.1 hF.2.2.2.2.1 (hF.2.2.2.2.2.2.2.1.1.use hw rfl) hd (k p l e s m args below meth c H locs la hF hP hS hH)
theorem sv_ldc2 {n : Int64} {i : Nat} (hd : decode M.2.1 pc = .ok (.ldc2_w i, 3)) (hw : Cond.constantLong M.1.cls i n ∈ lw_tbl) (k : sv_T X R M Z kc ks (pc + 3) ls (sv_l n :: st) S f r g) : sv_T X R M Z kc ks pc ls st S f r g := by
  intro p l e s m args below meth c H locs la hF hP hS hH
  exact lv_ldc2 hF.1 hF.2.1 hF.2.2.2.2.1 (hF.2.2.2.2.2.2.2.1.1.use hw rfl) hd (k p l e s m args below meth c H locs la hF hP hS hH)
theorem sv_iload_n {n : Fin 4} {i : Nat} {x : Int} (hd : decode M.2.1 pc = .ok (.iload_n n, 1)) (hi : (n : Nat) = i) (hl : ls[i]? = some (some (sv_i x))) (k : sv_T X R M Z kc ks (pc + 1) ls (sv_i x :: st) S f r g) : sv_T X R M Z kc ks pc ls st S f r g := by
  intro p l e s m args below meth c H locs la hF hP hS hH
  exact lv_iload_n hF.1 hF.2.1 hd hi (hH.2.2 _ _ hl) (k p l e s m args below meth c H locs la hF hP hS hH)
theorem sv_iload {i : Nat} {x : Int} (hd : decode M.2.1 pc = .ok (.iload i, 2)) (hl : ls[i]? = some (some (sv_i x))) (k : sv_T X R M Z kc ks (pc + 2) ls (sv_i x :: st) S f r g) : sv_T X R M Z kc ks pc ls st S f r g := by
  intro p l e s m args below meth c H locs la hF hP hS hH
  exact lv_iload hF.1 hF.2.1 hd (hH.2.2 _ _ hl) (k p l e s m args below meth c H locs la hF hP hS hH)
theorem sv_lload_n {n : Fin 4} {i : Nat} {x : Int64} (hd : decode M.2.1 pc = .ok (.lload_n n, 1)) (hi : (n : Nat) = i) (hl : ls[i]? = some (some (sv_l x))) (k : sv_T X R M Z kc ks (pc + 1) ls (sv_l x :: st) S f r g) : sv_T X R M Z kc ks pc ls st S f r g := by
  intro p l e s m args below meth c H locs la hF hP hS hH
  exact lv_lload_n hF.1 hF.2.1 hd hi (hH.2.2 _ _ hl) (k p l e s m args below meth c H locs la hF hP hS hH)
theorem sv_lload {i : Nat} {x : Int64} (hd : decode M.2.1 pc = .ok (.lload i, 2)) (hl : ls[i]? = some (some (sv_l x))) (k : sv_T X R M Z kc ks (pc + 2) ls (sv_l x :: st) S f r g) : sv_T X R M Z kc ks pc ls st S f r g := by
  intro p l e s m args below meth c H locs la hF hP hS hH
  exact lv_lload hF.1 hF.2.1 hd (hH.2.2 _ _ hl) (k p l e s m args below meth c H locs la hF hP hS hH)
theorem sv_aload_n {n : Fin 4} {i x : Nat} (hd : decode M.2.1 pc = .ok (.aload_n n, 1)) (hi : (n : Nat) = i) (hl : ls[i]? = some (some (sv_r x))) (k : sv_T X R M Z kc ks (pc + 1) ls (sv_r x :: st) S f r g) : sv_T X R M Z kc ks pc ls st S f r g := by
  intro p l e s m args below meth c H locs la hF hP hS hH
  exact lv_aload_n hF.1 hF.2.1 hd hi (hH.2.2 _ _ hl) (k p l e s m args below meth c H locs la hF hP hS hH)
theorem sv_aload {i x : Nat} (hd : decode M.2.1 pc = .ok (.aload i, 2)) (hl : ls[i]? = some (some (sv_r x))) (k : sv_T X R M Z kc ks (pc + 2) ls (sv_r x :: st) S f r g) : sv_T X R M Z kc ks pc ls st S f r g := by
  intro p l e s m args below meth c H locs la hF hP hS hH
  exact lv_aload hF.1 hF.2.1 hd (hH.2.2 _ _ hl) (k p l e s m args below meth c H locs la hF hP hS hH)
theorem sv_wload_n {n : Fin 4} {i x : Nat} (hd : decode M.2.1 pc = .ok (.aload_n n, 1)) (hi : (n : Nat) = i) (hl : ls[i]? = some (some (sv_w x))) (k : sv_T X R M Z kc ks (pc + 1) ls (sv_w x :: st) S f r g) : sv_T X R M Z kc ks pc ls st S f r g := by
  intro p l e s m args below meth c H locs la hF hP hS hH
  exact lv_aload_n hF.1 hF.2.1 hd hi (hH.2.2 _ _ hl) (k p l e s m args below meth c H locs la hF hP hS hH)
def sv_lng (o : Option (Option sv_V)) : Bool := match o with
  | some (some (.inr (.inr (.inl _)))) => true
  | _ => false
/-- storing at i, nothing long right ahead of it -/
def sv_fre (ls : sv_L) (i : Nat) : Bool := i == 0 || !(sv_lng ls[i - 1]?)
theorem sv_cat {b : Nat} {v : sv_V} (h : sv_lng (some (some v)) = false) : (sv_cv b v).category = 1 := by
  rcases v with a | o | x | a
  · rfl
  · cases o <;> rfl
  · simp [sv_lng] at h
  · rfl
theorem sv_cat2 {b : Nat} {v : sv_V} (h : (sv_cv b v).category = 2) : sv_lng (some (some v)) = true := by
  rcases v with a | o | x | a
  · cases h
  · cases o <;> cases h
  · rfl
  · cases h
def sv_ps (b : Nat) (ls : sv_L) : List (Nat × Value) := (List.range ls.length).filterMap (fun i => match ls[i]? with
  | some (some v) => some (i, sv_cv b v)
  | _ => none)
theorem sv_ps_mem {b : Nat} {ls : sv_L} {q : Nat × Value} : q ∈ sv_ps b ls ↔ ∃ v, ls[q.1]? = some (some v) ∧ q.2 = sv_cv b v := by
  unfold sv_ps
  constructor
  · intro h
    obtain ⟨i, -, hi⟩ := List.mem_filterMap.mp h
    cases hv : ls[i]? with
    | none => rw [hv] at hi; cases hi
    | some o =>
      cases o with
      | none => rw [hv] at hi; cases hi
      | some v =>
        rw [hv] at hi
        cases hi
        exact ⟨v, hv, rfl⟩
  · rintro ⟨v, h1, h2⟩
    refine List.mem_filterMap.mpr ⟨q.1, List.mem_range.mpr (List.getElem?_eq_some_iff.mp h1).1, ?_⟩
    rw [h1]
    exact congrArg some (Prod.ext rfl h2.symm)
theorem sv_H_has {b : Nat} {la : Array Slot} {nL : Nat} {ls : sv_L} (h : sv_H b la nL ls) : lv_has la nL (sv_ps b ls) := ⟨h.1, h.2.1, fun q hq => by
  obtain ⟨v, h1, h2⟩ := sv_ps_mem.mp hq
  rw [h2]
  exact h.2.2 _ _ h1⟩
theorem sv_H_of {b : Nat} {la : Array Slot} {nL : Nat} {ls : sv_L} {l : List (Nat × Value)} (h : lv_has la nL l) (hl : ∀ q ∈ sv_ps b ls, q ∈ l) : sv_H b la nL ls := ⟨h.1, h.2.1, fun i v hv => h.2.2 (i, sv_cv b v) (hl _ (sv_ps_mem.mpr ⟨v, hv, rfl⟩))⟩
theorem sv_H_set {b : Nat} {la' : Array Slot} {nL i : Nat} {ls : sv_L} {v : sv_V} (hfr : sv_fre ls i = true) (h : lv_has la' nL ((i, sv_cv b v) :: (sv_ps b ls).filter (fun q => !(q.1 == i) && !(q.1 + 1 == i && q.2.category == 2)))) : sv_H b la' nL (ls.set i (some v)) := by
  refine sv_H_of h fun q hq => ?_
  obtain ⟨w, h1, h2⟩ := sv_ps_mem.mp hq
  by_cases hqi : q.1 = i
  · subst hqi
    by_cases hlt : q.1 < ls.length
    · rw [List.getElem?_set_self hlt] at h1
      cases h1
      exact List.mem_cons.mpr (Or.inl (Prod.ext rfl h2))
    · rw [List.getElem?_eq_none (by rw [List.length_set]; omega)] at h1
      cases h1
  · rw [List.getElem?_set_ne (Ne.symm hqi)] at h1
    refine List.mem_cons.mpr (Or.inr (List.mem_filter.mpr ⟨sv_ps_mem.mpr ⟨w, h1, h2⟩, ?_⟩))
    have n1 : (q.1 == i) = false := by simp [hqi]
    rw [n1]
    by_cases h3 : q.1 + 1 = i
    · have hc : (q.2.category == 2) = false := by
        rw [h2]
        simp only [beq_eq_false_iff_ne, ne_eq]
        intro hc
        have := sv_cat2 hc
        unfold sv_fre at hfr
        rw [show i - 1 = q.1 by omega, h1, this] at hfr
        simp at hfr
        omega
      rw [hc]
      simp
    · have : (q.1 + 1 == i) = false := by simp [h3]
      rw [this]
      rfl
theorem sv_istore_n {n : Fin 4} {i : Nat} {x : Int} (hd : decode M.2.1 pc = .ok (.istore_n n, 1)) (hi : (n : Nat) = i) (hn : i < M.2.2.1) (hfr : sv_fre ls i = true) (k : sv_T X R M Z kc ks (pc + 1) (ls.set i (some (sv_i x))) st S f r g) : sv_T X R M Z kc ks pc ls (sv_i x :: st) S f r g := by
  intro p l e s m args below meth c H locs la hF hP hS hH
  exact lv_istore_n hF.1 hF.2.1 hd hi (sv_H_has hH) hn rfl (fun la' h' => k p l e s m args below meth c H locs la' hF hP hS (sv_H_set hfr h'))
theorem sv_istore {i : Nat} {x : Int} (hd : decode M.2.1 pc = .ok (.istore i, 2)) (hn : i < M.2.2.1) (hfr : sv_fre ls i = true) (k : sv_T X R M Z kc ks (pc + 2) (ls.set i (some (sv_i x))) st S f r g) : sv_T X R M Z kc ks pc ls (sv_i x :: st) S f r g := by
  intro p l e s m args below meth c H locs la hF hP hS hH
  exact lv_istore hF.1 hF.2.1 hd (sv_H_has hH) hn rfl (fun la' h' => k p l e s m args below meth c H locs la' hF hP hS (sv_H_set hfr h'))
theorem sv_astore_n {n : Fin 4} {i x : Nat} (hd : decode M.2.1 pc = .ok (.astore_n n, 1)) (hi : (n : Nat) = i) (hn : i < M.2.2.1) (hfr : sv_fre ls i = true) (k : sv_T X R M Z kc ks (pc + 1) (ls.set i (some (sv_r x))) st S f r g) : sv_T X R M Z kc ks pc ls (sv_r x :: st) S f r g := by
  intro p l e s m args below meth c H locs la hF hP hS hH
  exact lv_astore_n hF.1 hF.2.1 hd hi (sv_H_has hH) hn rfl (fun la' h' => k p l e s m args below meth c H locs la' hF hP hS (sv_H_set (v := sv_r x) hfr h'))
theorem sv_astore {i x : Nat} (hd : decode M.2.1 pc = .ok (.astore i, 2)) (hn : i < M.2.2.1) (hfr : sv_fre ls i = true) (k : sv_T X R M Z kc ks (pc + 2) (ls.set i (some (sv_r x))) st S f r g) : sv_T X R M Z kc ks pc ls (sv_r x :: st) S f r g := by
  intro p l e s m args below meth c H locs la hF hP hS hH
  exact lv_astore hF.1 hF.2.1 hd (sv_H_has hH) hn rfl (fun la' h' => k p l e s m args below meth c H locs la' hF hP hS (sv_H_set (v := sv_r x) hfr h'))
theorem sv_H_set2 {b : Nat} {la' : Array Slot} {nL i : Nat} {ls : sv_L} {v : sv_V} (hfr : sv_fre ls i = true) (h : lv_has la' nL ((i, sv_cv b v) :: (sv_ps b ls).filter (fun q => !(q.1 == i) && (!(q.1 == i + 1) && !(q.1 + 1 == i && q.2.category == 2))))) : sv_H b la' nL ((ls.set i (some v)).set (i + 1) none) := by
  refine sv_H_of h fun q hq => ?_
  obtain ⟨w, h1, h2⟩ := sv_ps_mem.mp hq
  by_cases hq2 : q.1 = i + 1
  · rw [hq2] at h1
    by_cases hlt : i + 1 < (ls.set i (some v)).length
    · rw [List.getElem?_set_self hlt] at h1
      cases h1
    · rw [List.getElem?_eq_none (by rw [List.length_set]; omega)] at h1
      cases h1
  rw [List.getElem?_set_ne (Ne.symm hq2)] at h1
  by_cases hqi : q.1 = i
  · subst hqi
    by_cases hlt : q.1 < ls.length
    · rw [List.getElem?_set_self hlt] at h1
      cases h1
      exact List.mem_cons.mpr (Or.inl (Prod.ext rfl h2))
    · rw [List.getElem?_eq_none (by rw [List.length_set]; omega)] at h1
      cases h1
  · rw [List.getElem?_set_ne (Ne.symm hqi)] at h1
    refine List.mem_cons.mpr (Or.inr (List.mem_filter.mpr ⟨sv_ps_mem.mpr ⟨w, h1, h2⟩, ?_⟩))
    have n1 : (q.1 == i) = false := by simp [hqi]
    have n2 : (q.1 == i + 1) = false := by simp [hq2]
    rw [n1, n2]
    by_cases h3 : q.1 + 1 = i
    · have hc : (q.2.category == 2) = false := by
        rw [h2]
        simp only [beq_eq_false_iff_ne, ne_eq]
        intro hc
        have := sv_cat2 hc
        unfold sv_fre at hfr
        rw [show i - 1 = q.1 by omega, h1, this] at hfr
        simp at hfr
        omega
      rw [hc]
      simp
    · have : (q.1 + 1 == i) = false := by simp [h3]
      rw [this]
      rfl
theorem sv_lstore_n {n : Fin 4} {i : Nat} {x : Int64} (hd : decode M.2.1 pc = .ok (.lstore_n n, 1)) (hi : (n : Nat) = i) (hn : i + 1 < M.2.2.1) (hfr : sv_fre ls i = true) (k : sv_T X R M Z kc ks (pc + 1) ((ls.set i (some (sv_l x))).set (i + 1) none) st S f r g) : sv_T X R M Z kc ks pc ls (sv_l x :: st) S f r g := by
  intro p l e s m args below meth c H locs la hF hP hS hH
  exact lv_lstore_n hF.1 hF.2.1 hd hi (sv_H_has hH) hn rfl (fun la' h' => k p l e s m args below meth c H locs la' hF hP hS (sv_H_set2 hfr h'))
theorem sv_lstore {i : Nat} {x : Int64} (hd : decode M.2.1 pc = .ok (.lstore i, 2)) (hn : i + 1 < M.2.2.1) (hfr : sv_fre ls i = true) (k : sv_T X R M Z kc ks (pc + 2) ((ls.set i (some (sv_l x))).set (i + 1) none) st S f r g) : sv_T X R M Z kc ks pc ls (sv_l x :: st) S f r g := by
  intro p l e s m args below meth c H locs la hF hP hS hH
  exact lv_lstore hF.1 hF.2.1 hd (sv_H_has hH) hn rfl (fun la' h' => k p l e s m args below meth c H locs la' hF hP hS (sv_H_set2 hfr h'))
theorem sv_iinc {i : Nat} {n x : Int} (hd : decode M.2.1 pc = .ok (.iinc i n, 3)) (hl : ls[i]? = some (some (sv_i x))) (hn : i < M.2.2.1) (hfr : sv_fre ls i = true) (k : sv_T X R M Z kc ks (pc + 3) (ls.set i (some (sv_i (x + n)))) st S f r g) : sv_T X R M Z kc ks pc ls st S f r g := by
  intro p l e s m args below meth c H locs la hF hP hS hH
  obtain ⟨j, hj⟩ := List.getElem?_of_mem (sv_ps_mem.mpr ⟨_, hl, rfl⟩ : (i, sv_cv X.1 (sv_i x)) ∈ sv_ps X.1 ls)
  exact lv_iinc (v := Int32.ofInt (x + n)) hF.1 hF.2.1 hd (sv_H_has hH) hj (by rw [Int32.ofInt_add]) hn rfl (fun la' h' => k p l e s m args below meth c H locs la' hF hP hS (sv_H_set (v := sv_i (x + n)) hfr h'))
theorem sv_iadd {x y : Int} (hd : decode M.2.1 pc = .ok (.iadd, 1)) (k : sv_T X R M Z kc ks (pc + 1) ls (sv_i (x + y) :: st) S f r g) : sv_T X R M Z kc ks pc ls (sv_i y :: sv_i x :: st) S f r g := by
  intro p l e s m args below meth c H locs la hF hP hS hH
  have h := k p l e s m args below meth c H locs la hF hP hS hH
  refine lv_iadd hF.1 hF.2.1 hd ?_
  rw [← Int32.ofInt_add]
  exact h
theorem sv_isub {x y : Int} (hd : decode M.2.1 pc = .ok (.isub, 1)) (k : sv_T X R M Z kc ks (pc + 1) ls (sv_i (x - y) :: st) S f r g) : sv_T X R M Z kc ks pc ls (sv_i y :: sv_i x :: st) S f r g := by
  intro p l e s m args below meth c H locs la hF hP hS hH
  have h := k p l e s m args below meth c H locs la hF hP hS hH
  refine lv_isub hF.1 hF.2.1 hd ?_
  rw [← Int32.ofInt_sub]
  exact h
theorem sv_imul {x y : Int} (hd : decode M.2.1 pc = .ok (.imul, 1)) (k : sv_T X R M Z kc ks (pc + 1) ls (sv_i (x * y) :: st) S f r g) : sv_T X R M Z kc ks pc ls (sv_i y :: sv_i x :: st) S f r g := by
  intro p l e s m args below meth c H locs la hF hP hS hH
  have h := k p l e s m args below meth c H locs la hF hP hS hH
  refine lv_imul hF.1 hF.2.1 hd ?_
  rw [← Int32.ofInt_mul]
  exact h
theorem sv_ineg {x : Int} (hd : decode M.2.1 pc = .ok (.ineg, 1)) (k : sv_T X R M Z kc ks (pc + 1) ls (sv_i (-x) :: st) S f r g) : sv_T X R M Z kc ks pc ls (sv_i x :: st) S f r g := by
  intro p l e s m args below meth c H locs la hF hP hS hH
  have h := k p l e s m args below meth c H locs la hF hP hS hH
  refine lv_ineg hF.1 hF.2.1 hd ?_
  rw [← Int32.ofInt_neg]
  exact h
theorem sv_toInt {x : Int} (h : sv_in x) : (Int32.ofInt x).toInt = x := Int32.toInt_ofInt_of_le (by omega) (by omega)
theorem sv_ofInt_div {x y : Int} (hx : sv_in x) (hy : sv_in y) (h0 : 0 ≤ x) (h1 : 0 < y) : Int32.ofInt x / Int32.ofInt y = Int32.ofInt (x / y) := by
  apply Int32.toInt_inj.mp
  rw [Int32.toInt_div_of_ne_right _ _ (by intro h; have := congrArg Int32.toInt h; rw [sv_toInt hy] at this; simp at this; omega), sv_toInt hx, sv_toInt hy]
  have a1 : x / y ≤ x := Int.ediv_le_self _ h0
  have a2 : 0 ≤ x / y := Int.ediv_nonneg h0 (by omega)
  rw [sv_toInt (by omega), Int.tdiv_eq_ediv_of_nonneg h0]
theorem sv_ne0 {y : Int} (hy : sv_in y) (h1 : 0 < y) : ¬ Int32.ofInt y = 0 := by
  intro h
  have := congrArg Int32.toInt h
  rw [sv_toInt hy] at this
  simp at this
  omega
theorem sv_idiv {x y : Int} (hd : decode M.2.1 pc = .ok (.idiv, 1)) (hx : 0 ≤ x ∧ x ≤ 2147483647) (hy : 0 < y ∧ y ≤ 2147483647) (k : sv_T X R M Z kc ks (pc + 1) ls (sv_i (x / y) :: st) S f r g) : sv_T X R M Z kc ks pc ls (sv_i y :: sv_i x :: st) S f r g := by
  intro p l e s m args below meth c H locs la hF hP hS hH
  have h := k p l e s m args below meth c H locs la hF hP hS hH
  refine lv_idiv hF.1 hF.2.1 hd (sv_ne0 (by omega) hy.1) ?_
  rw [sv_ofInt_div (by omega) (by omega) hx.1 hy.1]
  exact h
theorem sv_irem {x y : Int} (hd : decode M.2.1 pc = .ok (.irem, 1)) (hx : 0 ≤ x ∧ x ≤ 2147483647) (hy : 0 < y ∧ y ≤ 2147483647) (k : sv_T X R M Z kc ks (pc + 1) ls (sv_i (x % y) :: st) S f r g) : sv_T X R M Z kc ks pc ls (sv_i y :: sv_i x :: st) S f r g := by
  intro p l e s m args below meth c H locs la hF hP hS hH
  have h := k p l e s m args below meth c H locs la hF hP hS hH
  refine lv_irem hF.1 hF.2.1 hd (sv_ne0 (by omega) hy.1) ?_
  rw [sv_ofInt_div (by omega) (by omega) hx.1 hy.1, ← Int32.ofInt_mul, ← Int32.ofInt_sub, show x - x / y * y = x % y by have := Int.mul_ediv_add_emod x y; rw [Int.mul_comm] at this; omega]
  exact h
theorem sv_iand {x y z : Int} (hd : decode M.2.1 pc = .ok (.iand, 1)) (hz : Int32.ofInt x &&& Int32.ofInt y = Int32.ofInt z) (k : sv_T X R M Z kc ks (pc + 1) ls (sv_i z :: st) S f r g) : sv_T X R M Z kc ks pc ls (sv_i y :: sv_i x :: st) S f r g := by
  intro p l e s m args below meth c H locs la hF hP hS hH
  have h := k p l e s m args below meth c H locs la hF hP hS hH
  refine lv_iand hF.1 hF.2.1 hd ?_
  rw [hz]
  exact h
theorem sv_ishr {x y z : Int} (hd : decode M.2.1 pc = .ok (.ishr, 1)) (hz : Int32.ofInt x >>> (Int32.ofInt y &&& 31) = Int32.ofInt z) (k : sv_T X R M Z kc ks (pc + 1) ls (sv_i z :: st) S f r g) : sv_T X R M Z kc ks pc ls (sv_i y :: sv_i x :: st) S f r g := by
  intro p l e s m args below meth c H locs la hF hP hS hH
  have h := k p l e s m args below meth c H locs la hF hP hS hH
  refine lv_ishr hF.1 hF.2.1 hd ?_
  rw [hz]
  exact h
theorem sv_ladd {x y : Int64} (hd : decode M.2.1 pc = .ok (.ladd, 1)) (k : sv_T X R M Z kc ks (pc + 1) ls (sv_l (x + y) :: st) S f r g) : sv_T X R M Z kc ks pc ls (sv_l y :: sv_l x :: st) S f r g := by
  intro p l e s m args below meth c H locs la hF hP hS hH
  exact lv_ladd hF.1 hF.2.1 hd (k p l e s m args below meth c H locs la hF hP hS hH)
theorem sv_lmul {x y : Int64} (hd : decode M.2.1 pc = .ok (.lmul, 1)) (k : sv_T X R M Z kc ks (pc + 1) ls (sv_l (x * y) :: st) S f r g) : sv_T X R M Z kc ks pc ls (sv_l y :: sv_l x :: st) S f r g := by
  intro p l e s m args below meth c H locs la hF hP hS hH
  exact lv_lmul hF.1 hF.2.1 hd (k p l e s m args below meth c H locs la hF hP hS hH)
theorem sv_i2l {x : Int} (hd : decode M.2.1 pc = .ok (.i2l, 1)) (k : sv_T X R M Z kc ks (pc + 1) ls (sv_l (Int32.ofInt x).toInt64 :: st) S f r g) : sv_T X R M Z kc ks pc ls (sv_i x :: st) S f r g := by
  intro p l e s m args below meth c H locs la hF hP hS hH
  exact lv_i2l hF.1 hF.2.1 hd rfl (k p l e s m args below meth c H locs la hF hP hS hH)
theorem sv_dup {v : sv_V} (hd : decode M.2.1 pc = .ok (.dup, 1)) (hv : sv_lng (some (some v)) = false) (k : sv_T X R M Z kc ks (pc + 1) ls (v :: v :: st) S f r g) : sv_T X R M Z kc ks pc ls (v :: st) S f r g := by
  intro p l e s m args below meth c H locs la hF hP hS hH
  exact lv_dup hF.1 hF.2.1 hd (sv_cat hv) (k p l e s m args below meth c H locs la hF hP hS hH)
theorem sv_pop {v : sv_V} (hd : decode M.2.1 pc = .ok (.pop, 1)) (hv : sv_lng (some (some v)) = false) (k : sv_T X R M Z kc ks (pc + 1) ls st S f r g) : sv_T X R M Z kc ks pc ls (v :: st) S f r g := by
  intro p l e s m args below meth c H locs la hF hP hS hH
  exact lv_pop hF.1 hF.2.1 hd (sv_cat hv) (k p l e s m args below meth c H locs la hF hP hS hH)
theorem sv_dup2 {v w : sv_V} (hd : decode M.2.1 pc = .ok (.dup2, 1)) (hv : sv_lng (some (some v)) = false) (hw : sv_lng (some (some w)) = false) (k : sv_T X R M Z kc ks (pc + 1) ls (v :: w :: v :: w :: st) S f r g) : sv_T X R M Z kc ks pc ls (v :: w :: st) S f r g := by
  intro p l e s m args below meth c H locs la hF hP hS hH
  exact lv_dup2_11 hF.1 hF.2.1 hd (sv_cat hv) (sv_cat hw) (k p l e s m args below meth c H locs la hF hP hS hH)
theorem sv_goto {off : Int} {tgt : Nat} (hd : decode M.2.1 pc = .ok (.goto off, 3)) (ht : (pc : Int) + off = (tgt : Int)) (k : sv_T X R M Z kc ks tgt ls st S f r g) : sv_T X R M Z kc ks pc ls st S f r g := by
  intro p l e s m args below meth c H locs la hF hP hS hH
  exact lv_goto hF.1 hF.2.1 hd ht (k p l e s m args below meth c H locs la hF hP hS hH)
theorem sv_eqI {x y : Int} (hx : sv_in x) (hy : sv_in y) : Int32.ofInt x = Int32.ofInt y ↔ x = y := by
  constructor
  · intro h
    have := congrArg Int32.toInt h
    rw [sv_toInt hx, sv_toInt hy] at this
    exact this
  · intro h
    rw [h]
theorem sv_ltI {x y : Int} (hx : sv_in x) (hy : sv_in y) : Int32.ofInt x < Int32.ofInt y ↔ x < y := by rw [Int32.lt_iff_toInt_lt, sv_toInt hx, sv_toInt hy]
theorem sv_leI {x y : Int} (hx : sv_in x) (hy : sv_in y) : Int32.ofInt x ≤ Int32.ofInt y ↔ x ≤ y := by rw [Int32.le_iff_toInt_le, sv_toInt hx, sv_toInt hy]
theorem sv_icmp_eq {x y off : Int} {tgt : Nat} (hd : decode M.2.1 pc = .ok (.if_icmp .eq off, 3)) (ht : (pc : Int) + off = (tgt : Int)) (hx : sv_in x) (hy : sv_in y) (kt : x = y → sv_T X R M Z kc ks tgt ls st S f r g) (kf : ¬ x = y → sv_T X R M Z kc ks (pc + 3) ls st S f r g) : sv_T X R M Z kc ks pc ls (sv_i y :: sv_i x :: st) S f r g := by
  intro p l e s m args below meth c H locs la hF hP hS hH
  exact lv_icmp_eq hF.1 hF.2.1 hd ht (fun q => kt ((sv_eqI hx hy).mp q) p l e s m args below meth c H locs la hF hP hS hH) (fun q => kf (fun z => q ((sv_eqI hx hy).mpr z)) p l e s m args below meth c H locs la hF hP hS hH)
theorem sv_icmp_ne {x y off : Int} {tgt : Nat} (hd : decode M.2.1 pc = .ok (.if_icmp .ne off, 3)) (ht : (pc : Int) + off = (tgt : Int)) (hx : sv_in x) (hy : sv_in y) (kt : ¬ x = y → sv_T X R M Z kc ks tgt ls st S f r g) (kf : x = y → sv_T X R M Z kc ks (pc + 3) ls st S f r g) : sv_T X R M Z kc ks pc ls (sv_i y :: sv_i x :: st) S f r g := by
  intro p l e s m args below meth c H locs la hF hP hS hH
  exact lv_icmp_ne hF.1 hF.2.1 hd ht (fun q => kt (fun z => q ((sv_eqI hx hy).mpr z)) p l e s m args below meth c H locs la hF hP hS hH) (fun q => kf ((sv_eqI hx hy).mp q) p l e s m args below meth c H locs la hF hP hS hH)
theorem sv_icmp_lt {x y off : Int} {tgt : Nat} (hd : decode M.2.1 pc = .ok (.if_icmp .lt off, 3)) (ht : (pc : Int) + off = (tgt : Int)) (hx : sv_in x) (hy : sv_in y) (kt : x < y → sv_T X R M Z kc ks tgt ls st S f r g) (kf : y ≤ x → sv_T X R M Z kc ks (pc + 3) ls st S f r g) : sv_T X R M Z kc ks pc ls (sv_i y :: sv_i x :: st) S f r g := by
  intro p l e s m args below meth c H locs la hF hP hS hH
  exact lv_icmp_lt hF.1 hF.2.1 hd ht (fun q => kt ((sv_ltI hx hy).mp q) p l e s m args below meth c H locs la hF hP hS hH) (fun q => kf (by have q2 : ¬ (x < y) := fun z => q ((sv_ltI hx hy).mpr z); omega) p l e s m args below meth c H locs la hF hP hS hH)
theorem sv_icmp_ge {x y off : Int} {tgt : Nat} (hd : decode M.2.1 pc = .ok (.if_icmp .ge off, 3)) (ht : (pc : Int) + off = (tgt : Int)) (hx : sv_in x) (hy : sv_in y) (kt : y ≤ x → sv_T X R M Z kc ks tgt ls st S f r g) (kf : x < y → sv_T X R M Z kc ks (pc + 3) ls st S f r g) : sv_T X R M Z kc ks pc ls (sv_i y :: sv_i x :: st) S f r g := by
  intro p l e s m args below meth c H locs la hF hP hS hH
  exact lv_icmp_ge hF.1 hF.2.1 hd ht (fun q => kt ((sv_leI hy hx).mp q) p l e s m args below meth c H locs la hF hP hS hH) (fun q => kf (by have q2 : ¬ (y ≤ x) := fun z => q ((sv_leI hy hx).mpr z); omega) p l e s m args below meth c H locs la hF hP hS hH)
theorem sv_icmp_gt {x y off : Int} {tgt : Nat} (hd : decode M.2.1 pc = .ok (.if_icmp .gt off, 3)) (ht : (pc : Int) + off = (tgt : Int)) (hx : sv_in x) (hy : sv_in y) (kt : y < x → sv_T X R M Z kc ks tgt ls st S f r g) (kf : x ≤ y → sv_T X R M Z kc ks (pc + 3) ls st S f r g) : sv_T X R M Z kc ks pc ls (sv_i y :: sv_i x :: st) S f r g := by
  intro p l e s m args below meth c H locs la hF hP hS hH
  exact lv_icmp_gt hF.1 hF.2.1 hd ht (fun q => kt ((sv_ltI hy hx).mp q) p l e s m args below meth c H locs la hF hP hS hH) (fun q => kf (by have q2 : ¬ (y < x) := fun z => q ((sv_ltI hy hx).mpr z); omega) p l e s m args below meth c H locs la hF hP hS hH)
theorem sv_icmp_le {x y off : Int} {tgt : Nat} (hd : decode M.2.1 pc = .ok (.if_icmp .le off, 3)) (ht : (pc : Int) + off = (tgt : Int)) (hx : sv_in x) (hy : sv_in y) (kt : x ≤ y → sv_T X R M Z kc ks tgt ls st S f r g) (kf : y < x → sv_T X R M Z kc ks (pc + 3) ls st S f r g) : sv_T X R M Z kc ks pc ls (sv_i y :: sv_i x :: st) S f r g := by
  intro p l e s m args below meth c H locs la hF hP hS hH
  exact lv_icmp_le hF.1 hF.2.1 hd ht (fun q => kt ((sv_leI hx hy).mp q) p l e s m args below meth c H locs la hF hP hS hH) (fun q => kf (by have q2 : ¬ (x ≤ y) := fun z => q ((sv_leI hx hy).mpr z); omega) p l e s m args below meth c H locs la hF hP hS hH)
theorem sv_if_eq {x off : Int} {tgt : Nat} (hd : decode M.2.1 pc = .ok (.ifCond .eq off, 3)) (ht : (pc : Int) + off = (tgt : Int)) (hx : sv_in x) (kt : x = 0 → sv_T X R M Z kc ks tgt ls st S f r g) (kf : ¬ x = 0 → sv_T X R M Z kc ks (pc + 3) ls st S f r g) : sv_T X R M Z kc ks pc ls (sv_i x :: st) S f r g := by
  intro p l e s m args below meth c H locs la hF hP hS hH
  have h0 : sv_in 0 := by omega
  exact lv_if_eq hF.1 hF.2.1 hd ht (fun q => kt ((sv_eqI hx h0).mp q) p l e s m args below meth c H locs la hF hP hS hH) (fun q => kf (fun z => q ((sv_eqI hx h0).mpr z)) p l e s m args below meth c H locs la hF hP hS hH)
theorem sv_if_ne {x off : Int} {tgt : Nat} (hd : decode M.2.1 pc = .ok (.ifCond .ne off, 3)) (ht : (pc : Int) + off = (tgt : Int)) (hx : sv_in x) (kt : ¬ x = 0 → sv_T X R M Z kc ks tgt ls st S f r g) (kf : x = 0 → sv_T X R M Z kc ks (pc + 3) ls st S f r g) : sv_T X R M Z kc ks pc ls (sv_i x :: st) S f r g := by
  intro p l e s m args below meth c H locs la hF hP hS hH
  have h0 : sv_in 0 := by omega
  exact lv_if_ne hF.1 hF.2.1 hd ht (fun q => kt (fun z => q ((sv_eqI hx h0).mpr z)) p l e s m args below meth c H locs la hF hP hS hH) (fun q => kf ((sv_eqI hx h0).mp q) p l e s m args below meth c H locs la hF hP hS hH)
theorem sv_if_lt {x off : Int} {tgt : Nat} (hd : decode M.2.1 pc = .ok (.ifCond .lt off, 3)) (ht : (pc : Int) + off = (tgt : Int)) (hx : sv_in x) (kt : x < 0 → sv_T X R M Z kc ks tgt ls st S f r g) (kf : 0 ≤ x → sv_T X R M Z kc ks (pc + 3) ls st S f r g) : sv_T X R M Z kc ks pc ls (sv_i x :: st) S f r g := by
  intro p l e s m args below meth c H locs la hF hP hS hH
  have h0 : sv_in 0 := by omega
  exact lv_if_lt hF.1 hF.2.1 hd ht (fun q => kt ((sv_ltI hx h0).mp q) p l e s m args below meth c H locs la hF hP hS hH) (fun q => kf (by have q2 : ¬ (x < 0) := fun z => q ((sv_ltI hx h0).mpr z); omega) p l e s m args below meth c H locs la hF hP hS hH)
theorem sv_if_ge {x off : Int} {tgt : Nat} (hd : decode M.2.1 pc = .ok (.ifCond .ge off, 3)) (ht : (pc : Int) + off = (tgt : Int)) (hx : sv_in x) (kt : 0 ≤ x → sv_T X R M Z kc ks tgt ls st S f r g) (kf : x < 0 → sv_T X R M Z kc ks (pc + 3) ls st S f r g) : sv_T X R M Z kc ks pc ls (sv_i x :: st) S f r g := by
  intro p l e s m args below meth c H locs la hF hP hS hH
  have h0 : sv_in 0 := by omega
  exact lv_if_ge hF.1 hF.2.1 hd ht (fun q => kt ((sv_leI h0 hx).mp q) p l e s m args below meth c H locs la hF hP hS hH) (fun q => kf (by have q2 : ¬ (0 ≤ x) := fun z => q ((sv_leI h0 hx).mpr z); omega) p l e s m args below meth c H locs la hF hP hS hH)
theorem sv_if_gt {x off : Int} {tgt : Nat} (hd : decode M.2.1 pc = .ok (.ifCond .gt off, 3)) (ht : (pc : Int) + off = (tgt : Int)) (hx : sv_in x) (kt : 0 < x → sv_T X R M Z kc ks tgt ls st S f r g) (kf : x ≤ 0 → sv_T X R M Z kc ks (pc + 3) ls st S f r g) : sv_T X R M Z kc ks pc ls (sv_i x :: st) S f r g := by
  intro p l e s m args below meth c H locs la hF hP hS hH
  have h0 : sv_in 0 := by omega
  exact lv_if_gt hF.1 hF.2.1 hd ht (fun q => kt ((sv_ltI h0 hx).mp q) p l e s m args below meth c H locs la hF hP hS hH) (fun q => kf (by have q2 : ¬ (0 < x) := fun z => q ((sv_ltI h0 hx).mpr z); omega) p l e s m args below meth c H locs la hF hP hS hH)
theorem sv_if_le {x off : Int} {tgt : Nat} (hd : decode M.2.1 pc = .ok (.ifCond .le off, 3)) (ht : (pc : Int) + off = (tgt : Int)) (hx : sv_in x) (kt : x ≤ 0 → sv_T X R M Z kc ks tgt ls st S f r g) (kf : 0 < x → sv_T X R M Z kc ks (pc + 3) ls st S f r g) : sv_T X R M Z kc ks pc ls (sv_i x :: st) S f r g := by
  intro p l e s m args below meth c H locs la hF hP hS hH
  have h0 : sv_in 0 := by omega
  exact lv_if_le hF.1 hF.2.1 hd ht (fun q => kt ((sv_leI hx h0).mp q) p l e s m args below meth c H locs la hF hP hS hH) (fun q => kf (by have q2 : ¬ (x ≤ 0) := fun z => q ((sv_leI hx h0).mpr z); omega) p l e s m args below meth c H locs la hF hP hS hH)
theorem sv_tsw {lo hi : Int} {dflt : Int} {offs : Array Int} {len : Nat} {x off : Int} {tgt : Nat} (hd : decode M.2.1 pc = .ok (.tableswitch dflt lo hi offs, len)) (hx : sv_in x) (h1 : lo ≤ x) (h2 : x ≤ hi) (ho : offs[(x - lo).toNat]? = some off) (ht : (pc : Int) + off = (tgt : Int)) (k : sv_T X R M Z kc ks tgt ls st S f r g) : sv_T X R M Z kc ks pc ls (sv_i x :: st) S f r g := by
  intro p l e s m args below meth c H locs la hF hP hS hH
  exact lv_tableIn hF.1 hF.2.1 hd (by rw [sv_toInt hx]; omega) (by rw [sv_toInt hx]; omega) (by rw [sv_toInt hx]; exact ho) ht (k p l e s m args below meth c H locs la hF hP hS hH)
theorem sv_tswd {lo hi : Int} {dflt : Int} {offs : Array Int} {len : Nat} {x : Int} {tgt : Nat} (hd : decode M.2.1 pc = .ok (.tableswitch dflt lo hi offs, len)) (hx : sv_in x) (h1 : x < lo ∨ hi < x) (ht : (pc : Int) + dflt = (tgt : Int)) (k : sv_T X R M Z kc ks tgt ls st S f r g) : sv_T X R M Z kc ks pc ls (sv_i x :: st) S f r g := by
  intro p l e s m args below meth c H locs la hF hP hS hH
  exact lv_tableOut hF.1 hF.2.1 hd (by rw [sv_toInt hx]; exact h1) ht (k p l e s m args below meth c H locs la hF hP hS hH)
theorem sv_lcmp {x y : Int64} (hd : decode M.2.1 pc = .ok (.lcmp, 1)) (hxy : x = y) (k : sv_T X R M Z kc ks (pc + 1) ls (sv_i 0 :: st) S f r g) : sv_T X R M Z kc ks pc ls (sv_l y :: sv_l x :: st) S f r g := by
  intro p l e s m args below meth c H locs la hF hP hS hH
  have h := k p l e s m args below meth c H locs la hF hP hS hH
  refine W.lcmp hF.1 hF.2.1 hd ?_
  subst hxy
  have e : lg_cmp x x = 0 := by simp [lg_cmp]
  rw [e]
  exact h
/-- the facts that the heap's own picture gives -/
theorem sv_fr (k : (∀ i j, sv_in (f i j)) → sv_T X R M Z kc ks pc ls st S f r g) : sv_T X R M Z kc ks pc ls st S f r g := by
  intro p l e s m args below meth c H locs la hF hP hS hH
  exact k hP.2.2.1 p l e s m args below meth c H locs la hF hP hS hH
end SVROWS
end
section
def sv_u (f : sv_F) (i : Nat) (j : Int) (a : Int) : sv_F := fun x y => if x = i ∧ y = j then a else f x y
def sv_ur (f : sv_R) (i : Nat) (j : Int) (a : Option Nat) : sv_R := fun x y => if x = i ∧ y = j then a else f x y
def sv_ug (f : sv_G) (i : Nat) (j : Int) (a : Int64) : sv_G := fun x y => if x = i ∧ y = j then a else f x y
theorem sv_u_ne {f : sv_F} {i : Nat} {j a : Int} {x : Nat} (h : x ≠ i) : sv_u f i j a x = f x := by
  funext y
  simp [sv_u, h]
theorem sv_ur_ne {f : sv_R} {i : Nat} {j : Int} {a : Option Nat} {x : Nat} (h : x ≠ i) : sv_ur f i j a x = f x := by
  funext y
  simp [sv_ur, h]
theorem sv_ug_ne {f : sv_G} {i : Nat} {j : Int} {a : Int64} {x : Nat} (h : x ≠ i) : sv_ug f i j a x = f x := by
  funext y
  simp [sv_ug, h]
/-- a class of ours, by its place among the classes -/
def sv_cb (ci : Nat) (q : vw_C) : Prop := vwCl[ci]? = some q ∧ q.2.2 = sv_cn ci ∧ ci < 6 ∧ (∀ w ∈ u_ws q.1 q.2.1 q.2.2, w ∈ lw_tbl) ∧ (∀ k, k < q.2.2 → parseFieldDescriptor (q.2.1 k).2.2.1 = some (sv_ty ci k)) ∧ ∀ a, a < q.2.2 → ∀ b, b < q.2.2 → a ≠ b → (q.2.1 a).2.1 ≠ (q.2.1 b).2.1
theorem sv_cb0 : sv_cb 0 (RX0, TX0, 7) := ⟨rfl, rfl, by decide, inX0, tyX0_ok, nmX0⟩
theorem sv_cb1 : sv_cb 1 (RX1, TX1, 7) := ⟨rfl, rfl, by decide, inX1, tyX1_ok, nmX1⟩
theorem sv_cb2 : sv_cb 2 (RX2, TX2, 2) := ⟨rfl, rfl, by decide, inX2, tyX2_ok, nmX2⟩
theorem sv_cb3 : sv_cb 3 (RX3, TX3, 6) := ⟨rfl, rfl, by decide, inX3, tyX3_ok, nmX3⟩
theorem sv_cb4 : sv_cb 4 (RX4, TX4, 7) := ⟨rfl, rfl, by decide, inX4, tyX4_ok, nmX4⟩
theorem sv_cb5 : sv_cb 5 (RX5, TX5, 17) := ⟨rfl, rfl, by decide, inX5, tyX5_ok, nmX5⟩
/-- a field, as an entry of a class's file names it -/
def sv_fl (own : String) (idx ci k : Nat) (fin : Bool) : Prop := ∃ q : vw_C, sv_cb ci q ∧ k < q.2.2 ∧ (q.2.1 k).2.2.2 = fin ∧ (q.2.1 k).1 = q.1 ∧ (Cond.fieldLink own idx (q.2.1 k).1 (q.2.1 k).2.1 (q.2.1 k).2.2.1 ∈ lw_tbl ∨ ∃ host, Cond.fieldLinkNest own idx (q.2.1 k).1 (q.2.1 k).2.1 (q.2.1 k).2.2.1 host ∈ lw_tbl)
theorem sv_lay_ok {C : String} {T : u_T} {N : Nat} : ∀ w ∈ u_ws C T N, sv_ok w = true := by
  intro w hw
  obtain ⟨k, -, rfl⟩ := List.mem_map.mp hw
  unfold u_lay
  split <;> rfl
def sv_isr (t : FieldType) : Bool := match t with
  | .object _ => true
  | .array _ => true
  | _ => false
theorem sv_fs_len {b ci : Nat} {fi : Int → Int} {ri : Int → Option Nat} {gi : Int → Int64} : (sv_fs b ci fi ri gi).length = sv_cn ci := by simp [sv_fs]
theorem sv_fs_get {b ci k : Nat} {fi : Int → Int} {ri : Int → Option Nat} {gi : Int → Int64} (h : k < sv_cn ci) : (sv_fs b ci fi ri gi)[k]? = some (sv_fv b (sv_ty ci k) (fi k) (ri k) (gi k)) := by
  simp [sv_fs, List.getElem?_map, List.getElem?_range h]
theorem sv_fs_set {b ci k : Nat} {fi fi' : Int → Int} {ri ri' : Int → Option Nat} {gi gi' : Int → Int64} {v : Value} (hv : v = sv_fv b (sv_ty ci k) (fi' k) (ri' k) (gi' k)) (hf : ∀ j : Nat, j ≠ k → fi' j = fi j) (hr : ∀ j : Nat, j ≠ k → ri' j = ri j) (hg : ∀ j : Nat, j ≠ k → gi' j = gi j) : (sv_fs b ci fi ri gi).set k v = sv_fs b ci fi' ri' gi' := by
  apply List.ext_getElem?
  intro j
  by_cases hj : j < sv_cn ci
  · by_cases hjk : j = k
    · subst hjk
      rw [List.getElem?_set_self (by rw [sv_fs_len]; exact hj), sv_fs_get hj, hv]
    · rw [List.getElem?_set_ne (Ne.symm hjk), sv_fs_get hj, sv_fs_get hj, hf j hjk, hr j hjk, hg j hjk]
  · rw [List.getElem?_eq_none (by rw [List.length_set, sv_fs_len]; omega), List.getElem?_eq_none (by rw [sv_fs_len]; omega)]
theorem sv_e_obj {X : sv_X} {kn : Nat × Nat} {ci : Nat} {fi : Int → Int} {ri : Int → Option Nat} {gi : Int → Int64} (h : kn.1 = ci) (hc : ci < 6) : sv_e X kn fi ri gi = .inr (ci, sv_fs X.1 ci fi ri gi) := by
  unfold sv_e
  rw [if_pos (by omega), h]
theorem sv_e_int {X : sv_X} {n : Nat} {fi : Int → Int} {ri : Int → Option Nat} {gi : Int → Int64} : sv_e X (6, n) fi ri gi = .inl (X.2.2.1 0, n, .inl (fun j => Int32.ofInt (fi (j : Int)))) := rfl
theorem sv_e_bool {X : sv_X} {n : Nat} {fi : Int → Int} {ri : Int → Option Nat} {gi : Int → Int64} : sv_e X (7, n) fi ri gi = .inl (X.2.2.1 1, n, .inl (fun j => Int32.ofInt (fi (j : Int)))) := rfl
theorem sv_e_ref {X : sv_X} {t n : Nat} {fi : Int → Int} {ri : Int → Option Nat} {gi : Int → Int64} : sv_e X (8 + t, n) fi ri gi = .inl (X.2.2.1 (2 + t), n, .inr (.inr (.inr (.inr (fun j => (ri (j : Int)).map (X.1 + ·)))))) := by
  unfold sv_e
  rw [if_neg (by show ¬ 8 + t < 6; omega), if_neg (by show ¬ 8 + t < 8; omega)]
  show Sum.inl (X.2.2.1 (8 + t - 6), _) = _
  rw [show 8 + t - 6 = 2 + t by omega]
theorem sv_vp {j : Int} {n : Nat} (h : 0 ≤ j ∧ j < (n : Int)) (hn : n ≤ 100000) : vp_in (Int32.ofInt j) n ∧ (((Int32.ofInt j).toNatClampNeg : Nat) : Int) = j := by
  have e : (Int32.ofInt j).toInt = j := sv_toInt (by omega)
  have e2 : (Int32.ofInt j).toNatClampNeg = j.toNat := by rw [← Int32.toNat_toInt, e]
  refine ⟨vp_in_iff.mpr (by rw [e]; exact h), by rw [e2]; omega⟩
section SVHEAP
variable {X : sv_X} {R : Room} {M : sv_M} {Z : sv_Z} {kc ks : Nat} {pc : Nat} {ls : sv_L} {st : List sv_V} {S : sv_S} {f : sv_F} {r : sv_R} {g : sv_G}
theorem sv_get0 {idx ci k i : Nat} {fin : Bool} (hw : sv_fl M.1.cls idx ci k fin) (hd : decode M.2.1 pc = .ok (.getfield idx, 3)) (hi : i < S.1) (hk : (S.2 i).1 = ci) {v : sv_V} (hv : sv_cv X.1 v = sv_fv X.1 (sv_ty ci k) (f i k) (r i k) (g i k)) (kk : sv_T X R M Z kc ks (pc + 3) ls (v :: st) S f r g) : sv_T X R M Z kc ks pc ls (sv_r i :: st) S f r g := by
  intro p l e s m args below meth c H locs la hF hP hS hH
  obtain ⟨⟨C, T, N⟩, ⟨c1, c2, c3, c4, c5, c6⟩, hkN, -, hsm, hl⟩ := hw
  have hkk := kk p l e s m args below meth c H locs la hF hP hS hH
  have hKw := hF.2.2.2.2.2.2.2.1.1
  have hK := hF.2.2.2.2.2.2.2.1.2.1
  have he : (sv_ws X S f r g)[i]? = some (X.1 + i, .inr (ci, sv_fs X.1 ci (f i) (r i) (g i))) := by rw [sv_ws_get hi, sv_e_obj hk c3]
  have hvv : (sv_fs X.1 ci (f i) (r i) (g i))[k]? = some (sv_cv X.1 v) := by rw [sv_fs_get (by rw [← c2]; exact hkN), hv]
  have hts : ∀ w ∈ u_ws C T N, w.before args s = true := fun w h => hKw.use (c4 w h) (sv_lay_ok w h)
  rcases hl with hl | ⟨host, hl⟩
  · exact va_get (C := C) (T := T) (N := N) hF.1 hF.2.1 hts (fun _ h => h) hF.2.2.2.2.1 hK hP.1 i he c1 k hkN (hKw.use hl rfl) (fun _ h => h) hvv hd hkk
  · exact va_getN (C := C) (T := T) (N := N) hF.1 hF.2.1 hts (fun _ h => h) hF.2.2.2.2.1 hK hP.1 i he c1 k hkN (hKw.use hl (by unfold sv_ok; exact Bool.or_true _)) (fun _ h => h) hvv hd hkk
theorem sv_getI {idx ci k i : Nat} {kz : Int} {fin : Bool} (hw : sv_fl M.1.cls idx ci k fin) (hd : decode M.2.1 pc = .ok (.getfield idx, 3)) (hz : (k : Int) = kz) (ht : sv_ty ci k = .int) (hi : i < S.1) (hk : (S.2 i).1 = ci) (kk : sv_T X R M Z kc ks (pc + 3) ls (sv_i (f i kz) :: st) S f r g) : sv_T X R M Z kc ks pc ls (sv_r i :: st) S f r g := by
  subst hz
  exact sv_get0 hw hd hi hk (v := sv_i (f i k)) (by rw [ht]; rfl) kk
theorem sv_getL {idx ci k i : Nat} {kz : Int} {fin : Bool} (hw : sv_fl M.1.cls idx ci k fin) (hd : decode M.2.1 pc = .ok (.getfield idx, 3)) (hz : (k : Int) = kz) (ht : sv_ty ci k = .long) (hi : i < S.1) (hk : (S.2 i).1 = ci) (kk : sv_T X R M Z kc ks (pc + 3) ls (sv_l (g i kz) :: st) S f r g) : sv_T X R M Z kc ks pc ls (sv_r i :: st) S f r g := by
  subst hz
  exact sv_get0 hw hd hi hk (v := sv_l (g i k)) (by rw [ht]; rfl) kk
theorem sv_fv_r {b : Nat} {t : FieldType} {a : Int} {o : Option Nat} {x : Int64} (h : sv_isr t = true) : sv_fv b t a o x = va_rf (o.map (b + ·)) := by
  cases t <;> first | rfl | (simp [sv_isr] at h)
theorem sv_getR {idx ci k i j : Nat} {kz : Int} {fin : Bool} (hw : sv_fl M.1.cls idx ci k fin) (hd : decode M.2.1 pc = .ok (.getfield idx, 3)) (hz : (k : Int) = kz) (ht : sv_isr (sv_ty ci k) = true) (hi : i < S.1) (hk : (S.2 i).1 = ci) (hj : r i kz = some j) (kk : sv_T X R M Z kc ks (pc + 3) ls (sv_r j :: st) S f r g) : sv_T X R M Z kc ks pc ls (sv_r i :: st) S f r g := by
  subst hz
  exact sv_get0 hw hd hi hk (v := sv_r j) (by rw [sv_fv_r ht, hj]; rfl) kk
theorem sv_put0 {idx ci k i : Nat} {fin : Bool} {f' : sv_F} {r' : sv_R} {g' : sv_G} (hw : sv_fl M.1.cls idx ci k fin) (hd : decode M.2.1 pc = .ok (.putfield idx, 3)) (hfin : fin = false ∨ (M.1.name = "<init>" ∧ ∃ q, vwCl[ci]? = some q ∧ q.1 = M.1.cls)) (hi : i < S.1) (hk : (S.2 i).1 = ci) {v : sv_V} (hv : sv_cv X.1 v = sv_fv X.1 (sv_ty ci k) (f' i k) (r' i k) (g' i k))
    (hn : narrow (sv_ty ci k) (sv_cv X.1 v) = sv_cv X.1 v) (hfit : fits (sv_ty ci k) (sv_cv X.1 v) = true) (hf0 : ∀ j, j ≠ i → f' j = f j) (hr0 : ∀ j, j ≠ i → r' j = r j) (hg0 : ∀ j, j ≠ i → g' j = g j) (hf : ∀ j : Nat, j ≠ k → f' i j = f i j) (hr : ∀ j : Nat, j ≠ k → r' i j = r i j) (hg : ∀ j : Nat, j ≠ k → g' i j = g i j) (hin : ∀ i j, sv_in (f' i j))
    (kk : sv_T X R M Z kc ks (pc + 3) ls st S f' r' g') : sv_T X R M Z kc ks pc ls (v :: sv_r i :: st) S f r g := by
  intro p l e s m args below meth c H locs la hF hP hS hH
  obtain ⟨⟨C, T, N⟩, ⟨c1, c2, c3, c4, c5, c6⟩, hkN, hff, hsm, hl⟩ := hw
  have hKw := hF.2.2.2.2.2.2.2.1.1
  have hK := hF.2.2.2.2.2.2.2.1.2.1
  have he : (sv_ws X S f r g)[i]? = some (X.1 + i, .inr (ci, sv_fs X.1 ci (f i) (r i) (g i))) := by rw [sv_ws_get hi, sv_e_obj hk c3]
  have hts : ∀ w ∈ u_ws C T N, w.before args s = true := fun w h => hKw.use (c4 w h) (sv_lay_ok w h)
  have hlen : k < (sv_fs X.1 ci (f i) (r i) (g i)).length := by rw [sv_fs_len, ← c2]; exact hkN
  have hset : (sv_ws X S f r g).set i (X.1 + i, .inr (ci, (sv_fs X.1 ci (f i) (r i) (g i)).set k (sv_cv X.1 v))) = sv_ws X S f' r' g' := by
    refine sv_ws_set (fun _ => ?_) hf0 hr0 hg0
    rw [sv_e_obj hk c3, sv_fs_set hv hf hr hg]
  have go : ∀ (H1 : Heap) (locs1 : List Loc), va_P X.2.1 vwCl ((sv_ws X S f r g).set i (X.1 + i, .inr (ci, (sv_fs X.1 ci (f i) (r i) (g i)).set k (sv_cv X.1 v)))) H1 → va_S (fun q => X.1 ≤ q) s.heap H1 locs1 → H1.size = H.size → W p l e R s m args below meth c H1 locs1 kc ks (Z below args s) (F0 m (pc + 3) la (st.map (sv_cv X.1))) := by
    intro H1 locs1 hP1 hS1 hz
    rw [hset] at hP1
    exact kk p l e s m args below meth c H1 locs1 la hF ⟨hP1, by rw [hz]; exact hP.2.1, hin, hP.2.2.2⟩ hS1 hH
  have hap := va_apart (own := M.1.cls) hts (fun _ h => h) (sv_ty ci) c5 c6 hK c1
  obtain ⟨r0, h1, cell, q1, q2, q3, q4⟩ := hP.1 i _ he
  have hr1 : r0 = (C, T, N) := Option.some.inj (h1.symm.trans c1)
  subst hr1
  obtain ⟨hSl, hfc, kC, hkC, hkind⟩ := hK.1 ci _ c1
  obtain ⟨cf, kf, fi, fd, hi2, hsl⟩ := hSl k hkN
  have hst := (u_facts hfc hkC (u_lays hts (fun _ h => h) hkN) hi2).1
  have hlay := hts _ (u_in_lay hkN)
  have e3 : (hasFlag fd.accessFlags Acc.final = false ∨ (m.cls = cf ∧ meth.name = "<init>")) ∧ narrow fd.type (sv_cv X.1 v) = sv_cv X.1 v ∧ s.fitsSlot (X.2.1.1 ci) .none fd.slot (sv_cv X.1 v) = true := by
    cases fin with
    | false =>
      unfold u_lay at hlay
      rw [if_neg (by rw [hff]; decide)] at hlay
      have h6 := u_store hfc hkC hkind hlay hi2 (c5 k hkN) hn hfit
      exact ⟨Or.inl h6.1, h6.2.1, h6.2.2⟩
    | true =>
      rcases hfin with h | ⟨h7, q7, h8, h9⟩
      · cases h
      · unfold u_lay at hlay
        rw [if_pos hff] at hlay
        have hcf : m.cls = cf := by
          obtain ⟨_, _, c', _, _, _, -, -, hf', -, -, -, hown2, -⟩ := Cond.laysFinal_spec hlay
          have e1 : c' = cf := by have := hi2.symm.trans hf'; simp at this; exact this.1.symm
          have e2 : q7 = (C, T, N) := Option.some.inj (h8.symm.trans c1)
          rw [e2] at h9
          have hsm' : (T k).1 = C := hsm
          have h9' : C = M.1.cls := h9
          rw [hsm', h9'] at hown2
          rw [← e1]; exact Option.some.inj (hF.2.2.2.2.1.symm.trans hown2)
        have h6 := u_fits hfc hkC hkind (Or.inr hlay) hi2 (c5 k hkN) hn hfit
        exact ⟨Or.inr ⟨hcf, by rw [hF.2.2.2.2.2.2.1]; exact h7⟩, h6⟩
  have ha : X.1 + i < H.size := (Array.getElem?_eq_some_iff.mp q1).1
  have hslot : fd.slot < cell.slots.size := by rw [hsl]; exact k2_hasslot (q4 k hkN)
  have fin1 : W p l e R s m args below meth c (H.setIfInBounds (X.1 + i) (cell.setSlot fd.slot (sv_cv X.1 v))) (locs ++ [⟨X.1 + i, fd.slot⟩]) kc ks (Z below args s) (F0 m (pc + 3) la (st.map (sv_cv X.1))) := by
    have e4 : (H.setIfInBounds (X.1 + i) (cell.setSlot fd.slot (sv_cv X.1 v)))[X.1 + i]? = some (cell.setSlot fd.slot (sv_cv X.1 v)) := by simp [Array.getElem?_setIfInBounds, ha]
    have e5 : ∀ q : Nat, q ≠ X.1 + i → (H.setIfInBounds (X.1 + i) (cell.setSlot fd.slot (sv_cv X.1 v)))[q]? = H[q]? := fun q hq => by simp [Array.getElem?_setIfInBounds, Ne.symm hq]
    refine go _ _ (hP.1.set sv_ws_D he ⟨_, c1, t_OB.to (V := updV (vp_V (sv_fs X.1 ci (f i) (r i) (g i))) k (sv_cv X.1 v)) ⟨_, e4, q2, q3, ?_⟩ (fun j _ => vp_updV_set hlen (sv_cv X.1 v) j)⟩ e5) (hS.put (by simp) e5 (by show X.1 ≤ X.1 + i; omega)) (by simp)
    have := t_set q4 hap hkN (sv_cv X.1 v)
    rw [hsl]
    exact this
  rcases hl with hl | ⟨host, hl⟩
  · exact W.putf hF.1 hF.2.1 hF.2.2.2.2.1 (hKw.use hl rfl) (f := fd) hi2 hst e3.1 q1 (by rw [q3]; exact fun h => by cases h) hslot e3.2.1 (by rw [q2, q3]; exact e3.2.2) rfl rfl hd fin1
  · exact va_Wputf hF.1 hF.2.1 hF.2.2.2.2.1 (hKw.use hl (by unfold sv_ok; exact Bool.or_true _)) (f := fd) hi2 hst e3.1 q1 (by rw [q3]; exact fun h => by cases h) hslot e3.2.1 (by rw [q2, q3]; exact e3.2.2) rfl rfl hd fin1
theorem sv_u_in {i : Nat} {j a : Int} (h : ∀ i j, sv_in (f i j)) (ha : sv_in a) : ∀ x y, sv_in (sv_u f i j a x y) := by
  intro x y
  unfold sv_u
  split
  · exact ha
  · exact h x y
theorem sv_putI {idx ci k i : Nat} {kz a : Int} {fin : Bool} (hw : sv_fl M.1.cls idx ci k fin) (hd : decode M.2.1 pc = .ok (.putfield idx, 3)) (hfin : fin = false ∨ (M.1.name = "<init>" ∧ ∃ q, vwCl[ci]? = some q ∧ q.1 = M.1.cls)) (hz : (k : Int) = kz) (ht : sv_ty ci k = .int) (hi : i < S.1) (hk : (S.2 i).1 = ci) (ha : sv_in a) (kk : sv_T X R M Z kc ks (pc + 3) ls st S (sv_u f i kz a) r g) : sv_T X R M Z kc ks pc ls (sv_i a :: sv_r i :: st) S f r g := by
  subst hz
  refine sv_fr fun hin => ?_
  exact sv_put0 hw hd hfin hi hk (v := sv_i a) (by rw [ht]; simp [sv_u, sv_fv, sv_cv]) (by rw [ht]; rfl) (by rw [ht]; rfl) (fun j h => sv_u_ne h) (fun _ _ => rfl) (fun _ _ => rfl) (fun j h => by simp [sv_u]; omega) (fun _ _ => rfl) (fun _ _ => rfl) (sv_u_in hin ha) kk
theorem sv_putL {idx ci k i : Nat} {kz : Int} {a : Int64} {fin : Bool} (hw : sv_fl M.1.cls idx ci k fin) (hd : decode M.2.1 pc = .ok (.putfield idx, 3)) (hfin : fin = false ∨ (M.1.name = "<init>" ∧ ∃ q, vwCl[ci]? = some q ∧ q.1 = M.1.cls)) (hz : (k : Int) = kz) (ht : sv_ty ci k = .long) (hi : i < S.1) (hk : (S.2 i).1 = ci) (kk : sv_T X R M Z kc ks (pc + 3) ls st S f r (sv_ug g i kz a)) : sv_T X R M Z kc ks pc ls (sv_l a :: sv_r i :: st) S f r g := by
  subst hz
  refine sv_fr fun hin => ?_
  exact sv_put0 hw hd hfin hi hk (v := sv_l a) (by rw [ht]; simp [sv_ug, sv_fv, sv_cv]) (by rw [ht]; rfl) (by rw [ht]; rfl) (fun _ _ => rfl) (fun _ _ => rfl) (fun j h => sv_ug_ne h) (fun _ _ => rfl) (fun _ _ => rfl) (fun j h => by simp [sv_ug]; omega) hin kk
theorem sv_putR {idx ci k i j : Nat} {kz : Int} {fin : Bool} (hw : sv_fl M.1.cls idx ci k fin) (hd : decode M.2.1 pc = .ok (.putfield idx, 3)) (hfin : fin = false ∨ (M.1.name = "<init>" ∧ ∃ q, vwCl[ci]? = some q ∧ q.1 = M.1.cls)) (hz : (k : Int) = kz) (ht : sv_isr (sv_ty ci k) = true) (hi : i < S.1) (hk : (S.2 i).1 = ci) (kk : sv_T X R M Z kc ks (pc + 3) ls st S f (sv_ur r i kz (some j)) g) : sv_T X R M Z kc ks pc ls (sv_r j :: sv_r i :: st) S f r g := by
  subst hz
  refine sv_fr fun hin => ?_
  refine sv_put0 hw hd hfin hi hk (v := sv_r j) (by rw [sv_fv_r ht]; simp [sv_ur, sv_cv]) ?_ ?_ (fun _ _ => rfl) (fun j h => sv_ur_ne h) (fun _ _ => rfl) (fun _ _ => rfl) (fun j h => by simp [sv_ur]; omega) (fun _ _ => rfl) hin kk
  · cases h9 : sv_ty ci k <;> first | rfl | (rw [h9] at ht; simp [sv_isr] at ht)
  · cases h9 : sv_ty ci k <;> first | rfl | (rw [h9] at ht; simp [sv_isr] at ht)
theorem sv_iald {i n : Nat} {j : Int} (hd : decode M.2.1 pc = .ok (.iaload, 1)) (hi : i < S.1) (hk : S.2 i = (6, n)) (hj : 0 ≤ j ∧ j < (n : Int)) (kk : sv_T X R M Z kc ks (pc + 1) ls (sv_i (f i j) :: st) S f r g) : sv_T X R M Z kc ks pc ls (sv_i j :: sv_r i :: st) S f r g := by
  intro p l e s m args below meth c H locs la hF hP hS hH
  have hkk := kk p l e s m args below meth c H locs la hF hP hS hH
  have hn : n ≤ 100000 := by have := hP.2.2.2 i; rw [hk] at this; exact this
  obtain ⟨v1, v2⟩ := sv_vp hj hn
  refine va_iald hF.1 hF.2.1 hF.2.2.2.2.2.2.2.1.2.1 hP.1 i 0 (by rw [sv_ws_get hi, hk, sv_e_int]) rfl v1 hd ?_
  rw [v2]
  exact hkk
theorem sv_zald {i n : Nat} {j : Int} (hd : decode M.2.1 pc = .ok (.baload, 1)) (hi : i < S.1) (hk : S.2 i = (7, n)) (hj : 0 ≤ j ∧ j < (n : Int)) (kk : sv_T X R M Z kc ks (pc + 1) ls (sv_i (f i j) :: st) S f r g) : sv_T X R M Z kc ks pc ls (sv_i j :: sv_r i :: st) S f r g := by
  intro p l e s m args below meth c H locs la hF hP hS hH
  have hkk := kk p l e s m args below meth c H locs la hF hP hS hH
  have hn : n ≤ 100000 := by have := hP.2.2.2 i; rw [hk] at this; exact this
  obtain ⟨v1, v2⟩ := sv_vp hj hn
  refine va_zald hF.1 hF.2.1 hF.2.2.2.2.2.2.2.1.2.1 hP.1 i 1 (by rw [sv_ws_get hi, hk, sv_e_bool]) rfl v1 hd ?_
  rw [v2]
  exact hkk
theorem sv_aald {i n t j2 : Nat} {j : Int} (hd : decode M.2.1 pc = .ok (.aaload, 1)) (hi : i < S.1) (ht : t < 3) (hk : S.2 i = (8 + t, n)) (hj : 0 ≤ j ∧ j < (n : Int)) (hr : r i j = some j2) (kk : sv_T X R M Z kc ks (pc + 1) ls (sv_r j2 :: st) S f r g) : sv_T X R M Z kc ks pc ls (sv_i j :: sv_r i :: st) S f r g := by
  intro p l e s m args below meth c H locs la hF hP hS hH
  have hkk := kk p l e s m args below meth c H locs la hF hP hS hH
  have hn : n ≤ 100000 := by have := hP.2.2.2 i; rw [hk] at this; exact this
  obtain ⟨v1, v2⟩ := sv_vp hj hn
  have hK := hF.2.2.2.2.2.2.2.1.2.1
  have he : (sv_ws X S f r g)[i]? = some (X.1 + i, .inl (X.2.2.1 (2 + t), n, .inr (.inr (.inr (.inr (fun j => (r i (j : Int)).map (X.1 + ·))))))) := by rw [sv_ws_get hi, hk, sv_e_ref]
  obtain ⟨ty, hty, hre⟩ : ∃ ty : FieldType, (sv_tys X)[2 + t]? = some (X.2.2.1 (2 + t), ty) ∧ ty.isReference = true := by
    rcases (show t = 0 ∨ t = 1 ∨ t = 2 by omega) with rfl | rfl | rfl <;> exact ⟨_, rfl, rfl⟩
  have hlt : (Int32.ofInt j).toNatClampNeg < n := by omega
  refine W.aald (v := .ref (X.1 + j2)) (ty := ty) hF.1 hF.2.1 (hP.1 i _ he) ((hK.2 _ _ hty).1 n (fun j => va_rf ((r i (j : Int)).map (X.1 + ·)))) hre (fun q => by cases q) (by show ¬ (_ ∨ (arrV _ _ _).slots.size ≤ _); rw [arrV_size]; exact v1) (by show (arrV _ _ _).slots[_]? = _; rw [arrV_read _ _ hlt]; show some (va_rf (Option.map _ (r i ((Int32.ofInt j).toNatClampNeg : Int)))) = _; rw [v2, hr]; rfl) rfl rfl hd hkk
theorem sv_alen {i kd n : Nat} (hd : decode M.2.1 pc = .ok (.arraylength, 1)) (hi : i < S.1) (hk : S.2 i = (6 + kd, n)) (hkd : kd < 5) (kk : sv_T X R M Z kc ks (pc + 1) ls (sv_i n :: st) S f r g) : sv_T X R M Z kc ks pc ls (sv_r i :: st) S f r g := by
  intro p l e s m args below meth c H locs la hF hP hS hH
  have hkk := kk p l e s m args below meth c H locs la hF hP hS hH
  have he : ∃ z, (sv_ws X S f r g)[i]? = some (X.1 + i, .inl (X.2.2.1 kd, n, z)) := by
    rw [sv_ws_get hi, hk]
    unfold sv_e
    rw [if_neg (by show ¬ 6 + kd < 6; omega)]
    show ∃ z, some (X.1 + i, if 6 + kd < 8 then Sum.inl (X.2.2.1 (6 + kd - 6), n, _) else Sum.inl (X.2.2.1 (6 + kd - 6), n, _)) = _
    rw [show 6 + kd - 6 = kd by omega]
    split <;> exact ⟨_, rfl⟩
  obtain ⟨z, he⟩ := he
  obtain ⟨ty, hty⟩ : ∃ ty, (sv_tys X)[kd]? = some (X.2.2.1 kd, ty) := by
    rcases (show kd = 0 ∨ kd = 1 ∨ kd = 2 ∨ kd = 3 ∨ kd = 4 by omega) with rfl | rfl | rfl | rfl | rfl <;> exact ⟨_, rfl⟩
  exact va_alen hF.1 hF.2.1 hF.2.2.2.2.2.2.2.1.2.1 hP.1 i kd he hty (v := Int32.ofInt n) rfl hd hkk
theorem sv_iast {i n : Nat} {j a : Int} (hd : decode M.2.1 pc = .ok (.iastore, 1)) (hi : i < S.1) (hk : S.2 i = (6, n)) (hj : 0 ≤ j ∧ j < (n : Int)) (ha : sv_in a) (kk : sv_T X R M Z kc ks (pc + 1) ls st S (sv_u f i j a) r g) : sv_T X R M Z kc ks pc ls (sv_i a :: sv_i j :: sv_r i :: st) S f r g := by
  intro p l e s m args below meth c H locs la hF hP hS hH
  have hn : n ≤ 100000 := by have := hP.2.2.2 i; rw [hk] at this; exact this
  obtain ⟨v1, v2⟩ := sv_vp hj hn
  have hK := hF.2.2.2.2.2.2.2.1.2.1
  have he : (sv_ws X S f r g)[i]? = some (X.1 + i, .inl (X.2.2.1 0, n, .inl (fun j => Int32.ofInt (f i (j : Int))))) := by rw [sv_ws_get hi, hk, sv_e_int]
  have hcell := hP.1 i _ he
  refine W.iast hF.1 hF.2.1 hcell ((hK.2 0 _ rfl).1 n (fun j => .int (Int32.ofInt (f i (j : Int))))) (fun q => by cases q) (by show ¬ (_ ∨ (arrV _ _ _).slots.size ≤ _); rw [arrV_size]; exact v1) rfl rfl hd fun H1 e1 z1 o1 => ?_
  refine kk p l e s m args below meth c H1 _ la hF ⟨?_, by rw [z1]; exact hP.2.1, sv_u_in hP.2.2.1 ha, hP.2.2.2⟩ (hS.put z1 o1 (by show X.1 ≤ X.1 + i; omega)) hH
  have hset : (sv_ws X S f r g).set i (X.1 + i, .inl (X.2.2.1 0, n, .inl (fun k => Int32.ofInt (sv_u f i j a i (k : Int))))) = sv_ws X S (sv_u f i j a) r g := by
    refine sv_ws_set (fun _ => ?_) (fun j h => sv_u_ne h) (fun _ _ => rfl) (fun _ _ => rfl)
    rw [hk, sv_e_int]
  rw [← hset]
  refine hP.1.set sv_ws_D he ?_ o1
  show H1[X.1 + i]? = some (vp_cell _ _)
  rw [e1]
  rw [vp_cell_i, vp_cell_i, arrV_store]
  congr 2
  funext q
  by_cases hq : q = (Int32.ofInt j).toNatClampNeg
  · subst hq
    simp [updV, sv_u, v2]
    try rfl
  · have : ¬ ((q : Int) = j) := by omega
    simp [updV, sv_u, hq, this]
theorem sv_zast {i n : Nat} {j a : Int} (hd : decode M.2.1 pc = .ok (.bastore, 1)) (hi : i < S.1) (hk : S.2 i = (7, n)) (hj : 0 ≤ j ∧ j < (n : Int)) (ha : a = 0 ∨ a = 1) (kk : sv_T X R M Z kc ks (pc + 1) ls st S (sv_u f i j a) r g) : sv_T X R M Z kc ks pc ls (sv_i a :: sv_i j :: sv_r i :: st) S f r g := by
  intro p l e s m args below meth c H locs la hF hP hS hH
  have hn : n ≤ 100000 := by have := hP.2.2.2 i; rw [hk] at this; exact this
  obtain ⟨v1, v2⟩ := sv_vp hj hn
  have hK := hF.2.2.2.2.2.2.2.1.2.1
  have he : (sv_ws X S f r g)[i]? = some (X.1 + i, .inl (X.2.2.1 1, n, .inl (fun j => Int32.ofInt (f i (j : Int))))) := by rw [sv_ws_get hi, hk, sv_e_bool]
  have hcell := hP.1 i _ he
  refine W.zast hF.1 hF.2.1 hcell ((hK.2 1 _ rfl).1 n (fun j => .int (Int32.ofInt (f i (j : Int))))) (fun q => by cases q) (by show ¬ (_ ∨ (arrV _ _ _).slots.size ≤ _); rw [arrV_size]; exact v1) rfl rfl hd fun H1 e1 z1 o1 => ?_
  refine kk p l e s m args below meth c H1 _ la hF ⟨?_, by rw [z1]; exact hP.2.1, sv_u_in hP.2.2.1 (by omega), hP.2.2.2⟩ (hS.put z1 o1 (by show X.1 ≤ X.1 + i; omega)) hH
  have hset : (sv_ws X S f r g).set i (X.1 + i, .inl (X.2.2.1 1, n, .inl (fun k => Int32.ofInt (sv_u f i j a i (k : Int))))) = sv_ws X S (sv_u f i j a) r g := by
    refine sv_ws_set (fun _ => ?_) (fun j h => sv_u_ne h) (fun _ _ => rfl) (fun _ _ => rfl)
    rw [hk, sv_e_bool]
  rw [← hset]
  refine hP.1.set sv_ws_D he ?_ o1
  show H1[X.1 + i]? = some (vp_cell _ _)
  rw [e1]
  rw [vp_cell_i, vp_cell_i, arrV_store]
  have hnr : narrow .boolean (.int (Int32.ofInt a)) = .int (Int32.ofInt a) := by rcases ha with rfl | rfl <;> rfl
  congr 2
  funext q
  by_cases hq : q = (Int32.ofInt j).toNatClampNeg
  · subst hq
    simp [updV, sv_u, v2, hnr]
    try rfl
  · have : ¬ ((q : Int) = j) := by omega
    simp [updV, sv_u, hq, this]
/-- storing one of our objects into an array of its class -/
theorem sv_aast {i n t ci j2 : Nat} {j : Int} (hd : decode M.2.1 pc = .ok (.aastore, 1)) (hi : i < S.1) (ht : t < 2) (hci : ci = t) (hk : S.2 i = (8 + t, n)) (hj : 0 ≤ j ∧ j < (n : Int)) (hj2 : j2 < S.1) (hk2 : (S.2 j2).1 = ci) (kk : sv_T X R M Z kc ks (pc + 1) ls st S f (sv_ur r i j (some j2)) g) : sv_T X R M Z kc ks pc ls (sv_r j2 :: sv_i j :: sv_r i :: st) S f r g := by
  intro p l e s m args below meth c H locs la hF hP hS hH
  have hn : n ≤ 100000 := by have := hP.2.2.2 i; rw [hk] at this; exact this
  obtain ⟨v1, v2⟩ := sv_vp hj hn
  have hK := hF.2.2.2.2.2.2.2.1.2.1
  have he : (sv_ws X S f r g)[i]? = some (X.1 + i, .inl (X.2.2.1 (2 + t), n, .inr (.inr (.inr (.inr (fun j => (r i (j : Int)).map (X.1 + ·))))))) := by rw [sv_ws_get hi, hk, sv_e_ref]
  have he2 : (sv_ws X S f r g)[j2]? = some (X.1 + j2, .inr (ci, sv_fs X.1 ci (f j2) (r j2) (g j2))) := by rw [sv_ws_get hj2, sv_e_obj hk2 (by omega)]
  obtain ⟨q, hty, hcq⟩ : ∃ q : vw_C, (sv_tys X)[2 + t]? = some (X.2.2.1 (2 + t), .object q.1) ∧ vwCl[ci]? = some q := by
    rcases (show t = 0 ∨ t = 1 by omega) with rfl | rfl <;> subst hci <;> exact ⟨_, rfl, rfl⟩
  have hlt : (Int32.ofInt j).toNatClampNeg < n := by omega
  have h0 : ¬ Int32.ofInt j < 0 := fun q => v1 (Or.inl q)
  have hcell := hP.1 i _ he
  obtain ⟨r', hr', cellV, g1, g2, g3, -⟩ := hP.1 j2 _ he2
  have hcls := (hK.1 ci q hcq).2
  obtain ⟨kA, comp, k1, k2, k3, -⟩ := (hK.2 _ _ hty).2
  have hcomp : comp = X.2.1.1 ci := Option.some.inj (k3.symm.trans hcls.1)
  subst hcomp
  obtain ⟨kC, hkC, -⟩ := hcls.2
  refine W.aast hF.1 hF.2.1 hcell (fun q h => by cases h) (fun h => by cases h) k1 k2 rfl hkC ⟨h0, by show _ < (arrV _ _ _).slots.size; rw [arrV_size]; exact hlt⟩ g1 (fun q h => by rw [g3] at h; cases h) (by rw [g2]; exact hkC) (by rw [g2]; exact va_assign hcls) rfl rfl hd fun H1 e1 z1 o1 => ?_
  refine kk p l e s m args below meth c H1 _ la hF ⟨?_, by rw [z1]; exact hP.2.1, hP.2.2.1, hP.2.2.2⟩ (hS.put z1 o1 (by show X.1 ≤ X.1 + i; omega)) hH
  have hset : (sv_ws X S f r g).set i (X.1 + i, .inl (X.2.2.1 (2 + t), n, .inr (.inr (.inr (.inr (fun k => (sv_ur r i j (some j2) i (k : Int)).map (X.1 + ·))))))) = sv_ws X S f (sv_ur r i j (some j2)) g := by
    refine sv_ws_set (fun _ => ?_) (fun _ _ => rfl) (fun j h => sv_ur_ne h) (fun _ _ => rfl)
    rw [hk, sv_e_ref]
  rw [← hset]
  refine hP.1.set sv_ws_D he ?_ o1
  show H1[X.1 + i]? = some (vp_cell _ _)
  rw [e1]
  rw [vp_cell_q, vp_cell_q, arrV_store]
  congr 2
  funext q
  by_cases hq : q = (Int32.ofInt j).toNatClampNeg
  · subst hq
    simp [updV, sv_ur, va_rf, v2]
  · have : ¬ ((q : Int) = j) := by omega
    simp [updV, sv_ur, hq, this]
end SVHEAP
end
section
def sv_rm (d mc ms : Nat) : Room := { frames := d, cells := mc, slots := ms, locals := 36 * d }
abbrev sv_Q : Type := Option sv_V → sv_S → sv_F → sv_R → sv_G → Prop
def sv_Pc (X : sv_X) (S : sv_S) (f : sv_F) (r : sv_R) (g : sv_G) : State → Prop := fun U => sv_K X U U.heap ∧ X.1 ≤ U.heap.size ∧ sv_P X S f r g U.heap
def sv_Qc (X : sv_X) (Q : sv_Q) : Array Value → State → Outcome → State → Prop := fun _ st oc t => (∃ (rv : Option sv_V) (S' : sv_S) (f' : sv_F) (r' : sv_R) (g' : sv_G), oc = .returned (rv.map (sv_cv X.1)) ∧ Q rv S' f' r' g' ∧ sv_P X S' f' r' g' t.heap) ∧ va_F (fun q => X.1 ≤ q) st t
/-- a method's contract: from the cells f, r, g of the shape S and the arguments av it returns, and Q holds of its answer and of the cells then -/
def sv_C (X : sv_X) (d : Nat) (M : sv_M) (mc ms : Nat) (av : List sv_V) (S : sv_S) (f : sv_F) (r : sv_R) (g : sv_G) (Q : sv_Q) : Prop := ∀ l : Launch, Met l M.1 [Cond.code M.1 M.2.1 M.2.2.1 M.2.2.2] (sv_rm d mc ms) (va_Pc (av.map (sv_cv X.1)) (sv_Pc X S f r g)) (sv_Qc X Q) mc ms (fun q => X.1 ≤ q)
def sv_Zm (X : sv_X) (mc ms : Nat) (Q : sv_Q) : sv_Z := fun below args s => MQ below (sv_Qc X Q) args s mc ms (fun q => X.1 ≤ q)
def sv_ent : List sv_V → Nat → sv_L
  | [], n => List.replicate n none
  | v :: vs, n => if sv_lng (some (some v)) = true then some v :: none :: sv_ent vs (n - 2) else some v :: sv_ent vs (n - 1)
theorem sv_ent_mem {b : Nat} : ∀ (av : List sv_V) (n o i : Nat) (v : sv_V), (sv_ent av n)[i]? = some (some v) → (o + i, sv_cv b v) ∈ lv_args o (av.map (sv_cv b)) := by
  intro av
  induction av with
  | nil =>
    intro n o i v h
    simp [sv_ent, List.getElem?_replicate] at h
  | cons w vs ih =>
    intro n o i v h
    show _ ∈ (o, sv_cv b w) :: lv_args (if (sv_cv b w).category = 2 then o + 2 else o + 1) (vs.map (sv_cv b))
    unfold sv_ent at h
    by_cases hl : sv_lng (some (some w)) = true
    · rw [if_pos hl] at h
      have hc : (sv_cv b w).category = 2 := by
        rcases w with a | a | x | a
        · simp [sv_lng] at hl
        · simp [sv_lng] at hl
        · rfl
        · simp [sv_lng] at hl
      rw [if_pos hc]
      match i, h with
      | 0, h => cases h; exact List.mem_cons_self
      | 1, h => cases h
      | i + 2, h =>
        have := ih (n - 2) (o + 2) i v h
        rw [show o + 2 + i = o + (i + 2) by omega] at this
        exact List.mem_cons_of_mem _ this
    · rw [if_neg hl] at h
      have hc : ¬ (sv_cv b w).category = 2 := fun q => hl (sv_cat2 q)
      rw [if_neg hc]
      match i, h with
      | 0, h => cases h; exact List.mem_cons_self
      | i + 1, h =>
        have := ih (n - 1) (o + 1) i v h
        rw [show o + 1 + i = o + (i + 1) by omega] at this
        exact List.mem_cons_of_mem _ this
theorem sv_met {X : sv_X} {d mc ms : Nat} {M : sv_M} {av : List sv_V} {S : sv_S} {f : sv_F} {r : sv_R} {g : sv_G} {Q : sv_Q} (hy : plainName M.1.cls = true) (hlen : (lg_sl (av.map (sv_cv X.1))).length ≤ M.2.2.1)
    (h : sv_T X (sv_rm d mc ms) M (sv_Zm X mc ms Q) 0 0 0 (sv_ent av M.2.2.1) [] S f r g) : sv_C X d M mc ms av S f r g Q := by
  intro l
  refine Met.ofW (cc := M.2.1) (maxL := M.2.2.1) (ret := M.2.2.2) hy rfl ?_
  intro p e s m args below meth c s₁ B hml hv
  obtain ⟨rfl, hK, hz, hP⟩ := hv
  have hown : s.vm.findClass M.1.cls = some m.cls := findClass_of_methodNamed B.named
  have hin : meth.name = M.1.name := (name_of_methodNamed B.named B.method).1
  have hle := lv_entry (av.map (sv_cv X.1)) hlen
  rw [lg_entry_eq]
  generalize hla : (lg_sl (av.map (sv_cv X.1)) ++ List.replicate (M.2.2.1 - (lg_sl (av.map (sv_cv X.1))).length) Slot.unset).toArray = la at hle ⊢
  refine h p l e s m _ below meth c s.heap [] la ⟨B.exec, B.bytes, B.returns, hml, hown, B.notSynchronized, hin, hK, hz⟩ hP va_S.rf (sv_H_of hle fun q hq => ?_)
  obtain ⟨v, h1, h2⟩ := sv_ps_mem.mp hq
  have := sv_ent_mem (b := X.1) av M.2.2.1 0 q.1 v h1
  rw [Nat.zero_add, ← h2] at this
  exact this
section SVCALL
variable {X : sv_X} {R : Room} {M : sv_M} {Z : sv_Z} {kc ks : Nat} {pc : Nat} {ls : sv_L} {st : List sv_V} {S : sv_S} {f : sv_F} {r : sv_R} {g : sv_G}
theorem sv_widen {k2 n2 : Nat} (h1 : kc ≤ k2) (h2 : ks ≤ n2) (k : sv_T X R M Z k2 n2 pc ls st S f r g) : sv_T X R M Z kc ks pc ls st S f r g := by
  intro p l e s m args below meth c H locs la hF hP hS hH
  exact W.widen h1 h2 (k p l e s m args below meth c H locs la hF hP hS hH)
theorem sv_ireturn {Q : sv_Q} {mc ms : Nat} {a : Int} (hd : decode M.2.1 pc = .ok (.ireturn, 1)) (hr : M.2.2.2 = some .int) (hq : Q (some (sv_i a)) S f r g) : sv_T X R M (sv_Zm X mc ms Q) mc ms pc ls [sv_i a] S f r g := by
  intro p l e s m args below meth c H locs la hF hP hS hH
  have hlocks := hF.2.2.2.2.2.1
  exact W.iret hF.1 hF.2.1 (hF.2.2.1.trans hr) (fun t ht hW => ⟨⟨_, _, _, _, _, rfl, hq, by rw [ht]; exact hP⟩, hS.F ht⟩) hS.2.2 hd
theorem sv_zreturn {Q : sv_Q} {mc ms : Nat} {a : Int} (hd : decode M.2.1 pc = .ok (.ireturn, 1)) (hr : M.2.2.2 = some .boolean) (ha : a = 0 ∨ a = 1) (hq : Q (some (sv_i a)) S f r g) : sv_T X R M (sv_Zm X mc ms Q) mc ms pc ls [sv_i a] S f r g := by
  intro p l e s m args below meth c H locs la hF hP hS hH
  have hlocks := hF.2.2.2.2.2.1
  exact W.zret hF.1 hF.2.1 (hF.2.2.1.trans hr) (by rcases ha with rfl | rfl <;> rfl) (fun t ht hW => ⟨⟨_, _, _, _, _, rfl, hq, by rw [ht]; exact hP⟩, hS.F ht⟩) hS.2.2 hd
theorem sv_lreturn {Q : sv_Q} {mc ms : Nat} {a : Int64} (hd : decode M.2.1 pc = .ok (.lreturn, 1)) (hr : M.2.2.2 = some .long) (hq : Q (some (sv_l a)) S f r g) : sv_T X R M (sv_Zm X mc ms Q) mc ms pc ls [sv_l a] S f r g := by
  intro p l e s m args below meth c H locs la hF hP hS hH
  have hlocks := hF.2.2.2.2.2.1
  exact W.lret hF.1 hF.2.1 (hF.2.2.1.trans hr) (fun t ht hW => ⟨⟨some (sv_l a), _, _, _, _, rfl, hq, by rw [ht]; exact hP⟩, hS.F ht⟩) hS.2.2 hd
theorem sv_return {Q : sv_Q} {mc ms : Nat} (hd : decode M.2.1 pc = .ok (.return_, 1)) (hr : M.2.2.2 = none) (hq : Q none S f r g) : sv_T X R M (sv_Zm X mc ms Q) mc ms pc ls [] S f r g := by
  intro p l e s m args below meth c H locs la hF hP hS hH
  have hlocks := hF.2.2.2.2.2.1
  exact W.vret hF.1 hF.2.1 (hF.2.2.1.trans hr) (fun t ht hW => ⟨⟨none, _, _, _, _, rfl, hq, by rw [ht]; exact hP⟩, hS.F ht⟩) hS.2.2 hd
/-- what a call needs of the tables: the callee's code, its class at rest, how many arguments -/
def sv_cc (own : String) (idx : Nat) (M' : sv_M) (n : Nat) : Prop := Cond.code M'.1 M'.2.1 M'.2.2.1 M'.2.2.2 ∈ lw_tbl ∧ Cond.initialized M'.1.cls ∈ lw_tbl ∧ (M'.1.cls ≠ "java/lang/invoke/MethodHandle" ∧ M'.1.cls ≠ "java/lang/invoke/VarHandle") ∧ (parseMethodDescriptor M'.1.desc).map (fun d => d.parameters.length) = some n ∧ (Cond.methodLink own idx M'.1 ∈ lw_tbl ∨ ∃ host, Cond.methodLinkNest own idx M'.1 host ∈ lw_tbl)
def sv_cV (own : String) (idx : Nat) (M' : sv_M) (n : Nat) : Prop := sv_cc own idx M' n ∧ Cond.instanceMethod M'.1 ∈ lw_tbl ∧ Cond.selects M'.1.cls M'.1 M'.1 ∈ lw_tbl
def sv_cS (own : String) (idx : Nat) (M' : sv_M) (n : Nat) : Prop := sv_cc own idx M' n ∧ Cond.static M'.1 ∈ lw_tbl
def sv_cI (own : String) (idx : Nat) (M' : sv_M) (n : Nat) : Prop := sv_cc own idx M' n ∧ Cond.instanceMethod M'.1 ∈ lw_tbl ∧ M'.1.name = "<init>" ∧ M'.2.2.2 = none
theorem sv_blind {av : List Value} : FrameBlind (va_Pc av (sv_Pc X S f r g)) := by
  intro a U g0 mk ⟨q0, q1, q2, q3⟩
  exact ⟨q0, q1.moved (U := U.calling g0 mk a) (State.WarmedH.refl U), q2, q3⟩
theorem sv_pc {s : State} {H : Heap} {locs : List Loc} {av : List Value} (hK : sv_K X s s.heap) (hz : X.1 ≤ s.heap.size) (hS : va_S (fun q => X.1 ≤ q) s.heap H locs) (hP : sv_P X S f r g H) (U : State) (hU : U.heap = H) (hW : s.WarmedH U.vm) : va_Pc av (sv_Pc X S f r g) av.toArray U := by
  have h1 := (hK.kept (H1 := H) hS.1 hS.2.1).moved hW
  exact ⟨rfl, by rw [hU]; exact h1, by rw [hU]; exact Nat.le_trans hz hS.1, by rw [hU]; exact hP⟩
theorem sv_goes {p : Program} {l : Launch} {e : Env} {s : State} {m : MethodId} {args : Array Value} {below : List Frame} {meth : Method} {c : Code} {H : Heap} {locs : List Loc} {la : Array Slot} {mc ms : Nat} {st0 rest : List Value} {a : Array Value} {Q : sv_Q} {Qw : State → Prop}
    (hr : va_Run p l e R s m args below meth c H locs kc ks mc ms (F0 m pc la st0) rest (sv_Qc X Q a) (fun q => X.1 ≤ q)) (hS : va_S (fun q => X.1 ≤ q) s.heap H locs)
    (kk : ∀ (rv : Option sv_V) (S' : sv_S) (f' : sv_F) (r' : sv_R) (g' : sv_G) (H1 : Heap) (locs1 : List Loc), Q rv S' f' r' g' → sv_P X S' f' r' g' H1 → va_S (fun q => X.1 ≤ q) s.heap H1 locs1 → W p l e R s m args below meth c H1 locs1 (kc + mc) (ks + ms) Qw (F0 m (pc + 3) la ((rv.map (sv_cv X.1)).toList ++ rest))) : W p l e R s m args below meth c H locs kc ks Qw (F0 m pc la st0) := by
  intro T hT Xs
  obtain ⟨v, st₀, t, T', L, h0, X', hL, e1, e2, ⟨⟨rv, S', f', r', g', hv, hq, hP⟩, hz, hk⟩, st⟩ := hr T hT Xs
  cases hv
  rw [h0] at hz hk
  obtain ⟨t2, a1, b1⟩ := kk rv S' f' r' g' T'.heap (locs ++ L) hq (by rw [e1]; exact hP)
    ⟨Nat.le_trans hS.1 (by rw [e1]; exact hz), fun q h1 h2 => by rw [e1, hk q (Nat.lt_of_lt_of_le h1 hS.1) h2]; exact hS.2.1 q h1 h2, fun q hq => by
      rcases List.mem_append.mp hq with h | h
      · exact hS.2.2 q h
      · exact hL q h⟩ T' rfl X'
  exact ⟨t2, st t2 a1, b1⟩
theorem sv_good {s : State} {M' : sv_M} (hK : sv_W s) (hc : Cond.code M'.1 M'.2.1 M'.2.2.1 M'.2.2.2 ∈ lw_tbl) : ∀ w ∈ [Cond.code M'.1 M'.2.1 M'.2.2.1 M'.2.2.2], ∀ (a' : Array Value) (U : State), s.WarmedH U.vm → w.before a' U = true := by
  intro w hw a' U hW
  rw [List.mem_singleton] at hw
  subst hw
  exact hK.go hW hc rfl
theorem sv_roomy {la : Array Slot} {m : MethodId} {b : Nat} {rest : List sv_V} (h : 2 * rest.length ≤ 8) : 2 * (F0 m pc la []).monitorRoom + ((rest.map (sv_cv b)).map fun v => v.category).sum ≤ 8 := by
  have h2 : ∀ l : List sv_V, ((l.map (sv_cv b)).map fun v => v.category).sum ≤ 2 * l.length := by
    intro l
    induction l with
    | nil => simp
    | cons v vs ih =>
      have : (sv_cv b v).category ≤ 2 := by rcases lv_cat (sv_cv b v) with h | h <;> omega
      simp only [List.map_cons, List.sum_cons, List.length_cons]
      omega
  exact lv_room (m := m) (pc := pc) (ls := la) (rest := []) (Nat.le_trans (h2 rest) h)
theorem sv_callV {M' : sv_M} {idx d mc ms i n : Nat} {As rest : List sv_V} {Q : sv_Q} (hl : sv_cV M.1.cls idx M' n) (hM : sv_C X d M' mc ms (sv_r i :: As) S f r g Q) (hR : d + 1 ≤ R.frames ∧ 8 + (M'.2.2.1 + 11) + 36 * d ≤ R.locals) (hc : kc + mc ≤ R.cells ∧ ks + ms ≤ R.slots) (hi : i < S.1) {ci : Nat} (hk : (S.2 i).1 = ci) (hcl : ∃ q, vwCl[ci]? = some q ∧ q.1 = M'.1.cls) (hci : ci < 6) (hn : As.length = n) (hst : 2 * rest.length ≤ 8) (hd : decode M.2.1 pc = .ok (.invokevirtual idx, 3))
    (kk : ∀ (rv : Option sv_V) (S' : sv_S) (f' : sv_F) (r' : sv_R) (g' : sv_G), Q rv S' f' r' g' → sv_T X R M Z (kc + mc) (ks + ms) (pc + 3) ls (rv.toList ++ rest) S' f' r' g') : sv_T X R M Z kc ks pc ls (As.reverse ++ sv_r i :: rest) S f r g := by
  intro p l e s m args below meth c H locs la hF hP hS hH
  have hKK := hF.2.2.2.2.2.2.2.1
  have hz := hF.2.2.2.2.2.2.2.2
  obtain ⟨⟨h1, h2, h3, h4, h5⟩, h6, h7⟩ := hl
  have hwt := hKK.1
  obtain ⟨q, hq1, hq2⟩ := hcl
  have he : (sv_ws X S f r g)[i]? = some (X.1 + i, .inr (ci, sv_fs X.1 ci (f i) (r i) (g i))) := by rw [sv_ws_get hi, sv_e_obj hk hci]
  have hrecv := va_recv hKK.2.1 hP.1 hq1 he
  rw [hq2] at hrecv
  have hcat := sv_roomy (m := m) (pc := pc) (la := la) (b := X.1) hst
  have go : va_Run p l e R s m args below meth c H locs kc ks mc ms (F0 m pc la ((As.reverse ++ sv_r i :: rest).map (sv_cv X.1))) (rest.map (sv_cv X.1)) (sv_Qc X Q (Value.ref (X.1 + i) :: As.map (sv_cv X.1)).toArray) (fun q => X.1 ≤ q) := by
    have hpv : PreV s H M'.1.cls (X.1 + i) (va_Pc ((sv_r i :: As).map (sv_cv X.1)) (sv_Pc X S f r g)) (As.map (sv_cv X.1)) := ⟨sv_blind, hrecv, fun U hU hW => sv_pc hKK hz hS hP U hU hW⟩
    have hnp : ∀ sig, parseMethodDescriptor M'.1.desc = some sig → n = sig.parameters.length := fun sig hs => by
      rw [hs] at h4
      exact (Option.some.inj h4).symm
    have hstk : (F0 m pc la ((As.reverse ++ sv_r i :: rest).map (sv_cv X.1))).stack = (As.map (sv_cv X.1)).reverse ++ .ref (X.1 + i) :: rest.map (sv_cv X.1) := by
      show (As.reverse ++ sv_r i :: rest).map (sv_cv X.1) = _
      rw [List.map_append, List.map_reverse]
      rfl
    rcases h5 with h5 | ⟨host, h5⟩
    · exact va_runV (Ts := []) ⟨hF.1, hF.2.1, hF.2.2.2.1, hF.2.2.2.2.1, fun _ h => by cases h⟩ (hM l) ⟨⟨rfl, rfl, hR.1, hR.2, sv_good hwt h1, List.mem_cons_self, hwt.use h1 rfl, hwt.use h2 rfl, h3, hnp, hwt.use h5 rfl⟩, hwt.use h6 rfl, hwt.use h7 rfl⟩ hpv rfl (by rw [List.length_map]; exact hn) hH.1 hstk hcat hd hc
    · exact va_runVN (Ts := []) ⟨hF.1, hF.2.1, hF.2.2.2.1, hF.2.2.2.2.1, fun _ h => by cases h⟩ (hM l) ⟨⟨⟨rfl, rfl, hR.1, hR.2, sv_good hwt h1, List.mem_cons_self⟩, hwt.use h1 rfl, hwt.use h2 rfl, h3, hnp, hwt.use h5 (by unfold sv_ok; exact Bool.or_true _)⟩, hwt.use h6 rfl, hwt.use h7 rfl⟩ hpv rfl (by rw [List.length_map]; exact hn) hH.1 hstk hcat hd hc
  refine sv_goes go hS fun rv S' f' r' g' H1 locs1 hq hP1 hS1 => ?_
  have := kk rv S' f' r' g' hq p l e s m args below meth c H1 locs1 la hF hP1 hS1 hH
  rw [List.map_append] at this
  cases rv <;> exact this
theorem sv_callS {M' : sv_M} {idx d mc ms n : Nat} {As rest : List sv_V} {Q : sv_Q} (hl : sv_cS M.1.cls idx M' n) (hM : sv_C X d M' mc ms As S f r g Q) (hR : d + 1 ≤ R.frames ∧ 8 + (M'.2.2.1 + 11) + 36 * d ≤ R.locals) (hc : kc + mc ≤ R.cells ∧ ks + ms ≤ R.slots) (hn : As.length = n) (hst : 2 * rest.length ≤ 8) (hd : decode M.2.1 pc = .ok (.invokestatic idx, 3))
    (kk : ∀ (rv : Option sv_V) (S' : sv_S) (f' : sv_F) (r' : sv_R) (g' : sv_G), Q rv S' f' r' g' → sv_T X R M Z (kc + mc) (ks + ms) (pc + 3) ls (rv.toList ++ rest) S' f' r' g') : sv_T X R M Z kc ks pc ls (As.reverse ++ rest) S f r g := by
  intro p l e s m args below meth c H locs la hF hP hS hH
  have hKK := hF.2.2.2.2.2.2.2.1
  have hz := hF.2.2.2.2.2.2.2.2
  obtain ⟨⟨h1, h2, h3, h4, h5⟩, h6⟩ := hl
  have hwt := hKK.1
  have hcat := sv_roomy (m := m) (pc := pc) (la := la) (b := X.1) hst
  have go : va_Run p l e R s m args below meth c H locs kc ks mc ms (F0 m pc la ((As.reverse ++ rest).map (sv_cv X.1))) (rest.map (sv_cv X.1)) (sv_Qc X Q (As.map (sv_cv X.1)).toArray) (fun q => X.1 ≤ q) := by
    have hpv : PreS s H (va_Pc (As.map (sv_cv X.1)) (sv_Pc X S f r g)) (As.map (sv_cv X.1)) := ⟨sv_blind, fun U hU hW => sv_pc hKK hz hS hP U hU hW⟩
    have hnp : ∀ sig, parseMethodDescriptor M'.1.desc = some sig → n = sig.parameters.length := fun sig hs => by
      rw [hs] at h4
      exact (Option.some.inj h4).symm
    have hstk : (F0 m pc la ((As.reverse ++ rest).map (sv_cv X.1))).stack = (As.map (sv_cv X.1)).reverse ++ rest.map (sv_cv X.1) := by
      show (As.reverse ++ rest).map (sv_cv X.1) = _
      rw [List.map_append, List.map_reverse]
    rcases h5 with h5 | ⟨host, h5⟩
    · exact va_runS (Ts := []) ⟨hF.1, hF.2.1, hF.2.2.2.1, hF.2.2.2.2.1, fun _ h => by cases h⟩ (hM l) ⟨⟨rfl, rfl, hR.1, hR.2, sv_good hwt h1, List.mem_cons_self, hwt.use h1 rfl, hwt.use h2 rfl, h3, hnp, hwt.use h5 rfl⟩, hwt.use h6 rfl⟩ hpv rfl (by rw [List.length_map]; exact hn) hH.1 hstk hcat hd hc
    · exact va_runSN (Ts := []) ⟨hF.1, hF.2.1, hF.2.2.2.1, hF.2.2.2.2.1, fun _ h => by cases h⟩ (hM l) ⟨⟨⟨rfl, rfl, hR.1, hR.2, sv_good hwt h1, List.mem_cons_self⟩, hwt.use h1 rfl, hwt.use h2 rfl, h3, hnp, hwt.use h5 (by unfold sv_ok; exact Bool.or_true _)⟩, hwt.use h6 rfl, trivial⟩ hpv rfl (by rw [List.length_map]; exact hn) hH.1 hstk hcat hd hc
  refine sv_goes go hS fun rv S' f' r' g' H1 locs1 hq hP1 hS1 => ?_
  have := kk rv S' f' r' g' hq p l e s m args below meth c H1 locs1 la hF hP1 hS1 hH
  rw [List.map_append] at this
  cases rv <;> exact this
end SVCALL
end
section
/-- the first n of the row s laid over the row d -/
def sv_cp (f : sv_F) (d s : Nat) (n : Int) : sv_F := fun x y => if x = d ∧ 0 ≤ y ∧ y < n then f s y else f x y
section SVMORE
variable {X : sv_X} {R : Room} {M : sv_M} {Z : sv_Z} {kc ks : Nat} {pc : Nat} {ls : sv_L} {st : List sv_V} {S : sv_S} {f : sv_F} {r : sv_R} {g : sv_G}
theorem sv_sum {b : Nat} {rest : List sv_V} (h : 2 * rest.length ≤ 8) : ((rest.map (sv_cv b)).map fun v => v.category).sum ≤ 8 := by
  have h2 : ∀ l : List sv_V, ((l.map (sv_cv b)).map fun v => v.category).sum ≤ 2 * l.length := by
    intro l
    induction l with
    | nil => simp
    | cons v vs ih =>
      have : (sv_cv b v).category ≤ 2 := by rcases lv_cat (sv_cv b v) with h | h <;> omega
      simp only [List.map_cons, List.sum_cons, List.length_cons]
      omega
  exact Nat.le_trans (h2 rest) h
theorem sv_copy {idx i0 i1 n0 n1 : Nat} {n : Int} (hl : Cond.methodLink M.1.cls idx arraycopyName ∈ lw_tbl) (hw : Cond.native arraycopyName ∈ lw_tbl ∧ Cond.static arraycopyName ∈ lw_tbl ∧ Cond.initialized "java/lang/System" ∈ lw_tbl) (hi0 : i0 < S.1) (hk0 : S.2 i0 = (6, n0)) (hi1 : i1 < S.1) (hk1 : S.2 i1 = (6, n1)) (hn : 0 ≤ n ∧ n ≤ (n0 : Int) ∧ n ≤ (n1 : Int)) (hst : 2 * st.length ≤ 8) (hR : 1 ≤ R.frames ∧ 36 ≤ R.locals) (hd : decode M.2.1 pc = .ok (.invokestatic idx, 3))
    (kk : sv_T X R M Z kc ks (pc + 3) ls st S (sv_cp f i1 i0 n) r g) : sv_T X R M Z kc ks pc ls (sv_i n :: sv_i 0 :: sv_r i1 :: sv_i 0 :: sv_r i0 :: st) S f r g := by
  intro p l e s m args below meth c H locs la hF hP hS hH
  have hKK := hF.2.2.2.2.2.2.2.1
  have hwt := hKK.1
  have e0 : (sv_ws X S f r g)[i0]? = some (X.1 + i0, .inl (X.2.2.1 0, n0, .inl (fun j => Int32.ofInt (f i0 (j : Int))))) := by rw [sv_ws_get hi0, hk0, sv_e_int]
  have e1 : (sv_ws X S f r g)[i1]? = some (X.1 + i1, .inl (X.2.2.1 0, n1, .inl (fun j => Int32.ofInt (f i1 (j : Int))))) := by rw [sv_ws_get hi1, hk1, sv_e_int]
  have hn0 : n0 ≤ 100000 := by have := hP.2.2.2 i0; rw [hk0] at this; exact this
  have hn1 : n1 ≤ 100000 := by have := hP.2.2.2 i1; rw [hk1] at this; exact this
  have ez : (Int32.ofInt 0).toNatClampNeg = 0 := rfl
  have en : (Int32.ofInt n).toNatClampNeg = n.toNat := by rw [← Int32.toNat_toInt, sv_toInt (by omega)]
  have hz0 : ¬ Int32.ofInt 0 < 0 := by decide
  have hzn : ¬ Int32.ofInt n < 0 := by
    intro h
    have := (sv_ltI (x := n) (y := 0) (by omega) (by omega)).mp h
    omega
  have hcat := sv_sum (b := X.1) hst
  have hin : ∀ i j, sv_in (sv_cp f i1 i0 n i j) := by
    intro i j
    unfold sv_cp
    split <;> exact hP.2.2.1 _ _
  have hset : (sv_ws X S f r g).set i1 (X.1 + i1, .inl (X.2.2.1 0, n1, .inl (va_cpy (fun j => Int32.ofInt (f i0 (j : Int))) (fun j => Int32.ofInt (f i1 (j : Int))) (Int32.ofInt 0).toNatClampNeg (Int32.ofInt 0).toNatClampNeg (Int32.ofInt n).toNatClampNeg))) = sv_ws X S (sv_cp f i1 i0 n) r g := by
    refine sv_ws_set (fun _ => ?_) (fun j h => by funext y; simp [sv_cp, h]) (fun _ _ => rfl) (fun _ _ => rfl)
    rw [hk1, sv_e_int, ez, en]
    refine congrArg (fun z => Sum.inl (X.2.2.1 0, n1, Sum.inl z)) (funext fun j => ?_)
    by_cases hj : j < n.toNat
    · rw [pk_cpy_in (Nat.zero_le _) (by omega)]
      show Int32.ofInt (f i0 ((0 + (j - 0) : Nat) : Int)) = Int32.ofInt (sv_cp f i1 i0 n i1 (j : Int))
      unfold sv_cp
      rw [if_pos ⟨rfl, by omega, by omega⟩]
      simp
    · rw [pk_cpy_out (Or.inr (by omega))]
      unfold sv_cp
      rw [if_neg (by omega)]
  have hK := hKK.2.1
  have hc0 : H[X.1 + i0]? = some (vp_cell (X.2.2.1 0) (n0, .inl (fun j => Int32.ofInt (f i0 (j : Int))))) := hP.1 i0 _ e0
  have hc1 : H[X.1 + i1]? = some (vp_cell (X.2.2.1 0) (n1, .inl (fun j => Int32.ofInt (f i1 (j : Int))))) := hP.1 i1 _ e1
  obtain ⟨-, k0, hk0', cm0, hkk0⟩ := (hK.2 0 _ rfl).1 n0 (fun j => .int (Int32.ofInt (f i0 (j : Int))))
  obtain ⟨-, k1, hk1', cm1, hkk1⟩ := (hK.2 0 _ rfl).1 n1 (fun j => .int (Int32.ofInt (f i1 (j : Int))))
  have s0 : (vp_cell (X.2.2.1 0) (n0, .inl (fun j => Int32.ofInt (f i0 (j : Int))))).slots.size = n0 := by rw [vp_cell_i, arrV_size]
  have s1 : (vp_cell (X.2.2.1 0) (n1, .inl (fun j => Int32.ofInt (f i1 (j : Int))))).slots.size = n1 := by rw [vp_cell_i, arrV_size]
  have tz : (Int32.ofInt 0).toInt = 0 := rfl
  have tn : (Int32.ofInt n).toInt = n := sv_toInt (by omega)
  intro T hT Xs
  obtain ⟨vm', X', step⟩ := Xs.arraycopy hF.1 hF.2.2.2.2.1 (hwt.use hl rfl) (hwt.use hw.1 rfl) (hwt.use hw.2.1 rfl) (hwt.use hw.2.2 rfl) (src := X.1 + i0) (dst := X.1 + i1) (cs := vp_cell (X.2.2.1 0) (n0, .inl (fun j => Int32.ofInt (f i0 (j : Int))))) (cd := vp_cell (X.2.2.1 0) (n1, .inl (fun j => Int32.ofInt (f i1 (j : Int))))) (srcPos := Int32.ofInt 0) (destPos := Int32.ofInt 0) (n := Int32.ofInt n) (by rw [hT]; exact hc0) (by rw [hT]; exact hc1)
    (fun _ h => by cases h) (fun _ h => by cases h) (fun h => by cases h) (fun h => by cases h) hk0' hk1' hkk0 hkk1 (by simp [refKind]) hz0 hz0 hzn
    (by rw [tz, tn, s0]; omega) (by rw [tz, tn, s1]; omega)
    (fun vm₁ _ i hi => by
      have e : (vp_cell (X.2.2.1 0) (n0, .inl (fun j => Int32.ofInt (f i0 (j : Int))))).slots.getD ((Int32.ofInt 0).toNatClampNeg + i) .null = .int (Int32.ofInt (f i0 (((Int32.ofInt 0).toNatClampNeg + i : Nat) : Int))) := by
        show (arrV (X.2.2.1 0) n0 (fun j => .int (Int32.ofInt (f i0 (j : Int))))).slots.getD _ _ = _
        rw [Array.getD_eq_getD_getElem?, arrV_read _ _ (by omega)]
        rfl
      refine ⟨?_, ?_⟩
      · rw [e]
        rfl
      · rw [e]
        exact trivial)
    (g := F0 m pc la ((sv_i n :: sv_i 0 :: sv_r i1 :: sv_i 0 :: sv_r i0 :: st).map (sv_cv X.1))) rfl (by rw [hF.2.2.2.1]; exact hH.1) (rest := st.map (sv_cv X.1)) rfl (by rw [hF.2.1]; exact hd) hR.1 (by
      have h9 : nativeFrameWords "java/lang/System" "arraycopy" 5 + 11 ≤ 28 := by decide
      show 2 * 0 + _ + _ ≤ _
      omega)
  have hle : (Int32.ofInt 0).toNatClampNeg + (Int32.ofInt n).toNatClampNeg ≤ n0 := by rw [ez, en]; omega
  have e3 : copied (vp_cell (X.2.2.1 0) (n0, .inl (fun j => Int32.ofInt (f i0 (j : Int))))) (vp_cell (X.2.2.1 0) (n1, .inl (fun j => Int32.ofInt (f i1 (j : Int))))) (Int32.ofInt 0) (Int32.ofInt 0) (Int32.ofInt n) = vp_cell (X.2.2.1 0) (n1, .inl (va_cpy (fun j => Int32.ofInt (f i0 (j : Int))) (fun j => Int32.ofInt (f i1 (j : Int))) (Int32.ofInt 0).toNatClampNeg (Int32.ofInt 0).toNatClampNeg (Int32.ofInt n).toNatClampNeg)) := va_copied (fun z => .int z) (X.2.2.1 0) (X.2.2.1 0) (fun j => Int32.ofInt (f i0 (j : Int))) (fun j => Int32.ofInt (f i1 (j : Int))) (hle)
  rw [e3] at X' step
  generalize hcell : vp_cell (X.2.2.1 0) (n1, .inl (va_cpy (fun j => Int32.ofInt (f i0 (j : Int))) (fun j => Int32.ofInt (f i1 (j : Int))) (Int32.ofInt 0).toNatClampNeg (Int32.ofInt 0).toNatClampNeg (Int32.ofInt n).toNatClampNeg)) = nc at X' step
  have ha : X.1 + i1 < H.size := (Array.getElem?_eq_some_iff.mp hc1).1
  have hheap : ((T.setVm vm').setCell (X.1 + i1) nc).heap = H.setIfInBounds (X.1 + i1) nc := by rw [← hT]; rfl
  have oq : ∀ q : Nat, q ≠ X.1 + i1 → (H.setIfInBounds (X.1 + i1) nc)[q]? = H[q]? := fun q hq => by simp [Array.getElem?_setIfInBounds, Ne.symm hq]
  have hP1 : va_P X.2.1 vwCl (sv_ws X S (sv_cp f i1 i0 n) r g) (H.setIfInBounds (X.1 + i1) nc) := by
    rw [← hset]
    refine hP.1.set sv_ws_D e1 (show (H.setIfInBounds (X.1 + i1) nc)[X.1 + i1]? = some _ from ?_) oq
    rw [hcell]
    simp [Array.getElem?_setIfInBounds, ha]
  have hS1 : ∀ L : List Loc, (∀ q ∈ L, q.base = X.1 + i1) → va_S (fun q => X.1 ≤ q) s.heap (H.setIfInBounds (X.1 + i1) nc) (locs ++ L) := fun L hL => ⟨by simp; exact hS.1, fun q g1 g2 => by
      rw [oq q (fun e => g2 (by rw [e]; omega))]
      exact hS.2.1 q g1 g2, fun q hq => by
      rcases List.mem_append.mp hq with h | h
      · exact hS.2.2 q h
      · rw [hL q h]
        omega⟩
  obtain ⟨t, a1, b1⟩ := kk p l e s m args below meth c _ _ la hF ⟨hP1, by simp; exact hP.2.1, hin, hP.2.2.2⟩ (hS1 _ (fun q hq => by
      obtain ⟨z, -, hz⟩ := List.mem_map.mp hq
      rw [← hz])) hH _ hheap X'
  exact ⟨t, step t a1, b1⟩
theorem sv_max {idx : Nat} {x y : Int} (hl : Cond.methodLink M.1.cls idx Lib.Math.max.name ∈ lw_tbl) (hw : Cond.static Lib.Math.max.name ∈ lw_tbl ∧ Cond.initialized "java/lang/Math" ∈ lw_tbl ∧ Cond.code Lib.Math.max.name Lib.Math.max.code 2 (some .int) ∈ lw_tbl) (hst : 2 * st.length ≤ 8) (hR : 1 ≤ R.frames ∧ 36 ≤ R.locals) (hc : kc ≤ R.cells ∧ ks ≤ R.slots) (hx : sv_in x) (hy : sv_in y) (hd : decode M.2.1 pc = .ok (.invokestatic idx, 3))
    (kk : sv_T X R M Z kc ks (pc + 3) ls (sv_i (max x y) :: st) S f r g) : sv_T X R M Z kc ks pc ls (sv_i y :: sv_i x :: st) S f r g := by
  intro p l e s m args below meth c H locs la hF hP hS hH
  have hwt := hF.2.2.2.2.2.2.2.1.1
  have hkk := kk p l e s m args below meth c H locs la hF hP hS hH
  have hcat := sv_sum (b := X.1) hst
  refine va_mmax hF.1 hF.2.1 (by rw [hF.2.2.2.1]; exact hH.1.symm) hF.2.2.2.2.1 (hwt.use hl rfl) (hwt.use hw.1 rfl) (hwt.use hw.2.1 rfl) (hwt.use hw.2.2 rfl) hR.1 (by omega) hc.1 hc.2 hd ?_
  have e : (if Int32.ofInt x < Int32.ofInt y then Int32.ofInt y else Int32.ofInt x) = Int32.ofInt (max x y) := by
    by_cases h : x < y
    · rw [if_pos ((sv_ltI hx hy).mpr h), show max x y = y by omega]
    · rw [if_neg (fun q => h ((sv_ltI hx hy).mp q)), show max x y = x by omega]
  rw [e]
  exact hkk
theorem sv_min {idx : Nat} {x y : Int} (hl : Cond.methodLink M.1.cls idx Lib.Math.min.name ∈ lw_tbl) (hw : Cond.static Lib.Math.min.name ∈ lw_tbl ∧ Cond.initialized "java/lang/Math" ∈ lw_tbl ∧ Cond.code Lib.Math.min.name Lib.Math.min.code 2 (some .int) ∈ lw_tbl) (hst : 2 * st.length ≤ 8) (hR : 1 ≤ R.frames ∧ 36 ≤ R.locals) (hc : kc ≤ R.cells ∧ ks ≤ R.slots) (hx : sv_in x) (hy : sv_in y) (hd : decode M.2.1 pc = .ok (.invokestatic idx, 3))
    (kk : sv_T X R M Z kc ks (pc + 3) ls (sv_i (min x y) :: st) S f r g) : sv_T X R M Z kc ks pc ls (sv_i y :: sv_i x :: st) S f r g := by
  intro p l e s m args below meth c H locs la hF hP hS hH
  have hwt := hF.2.2.2.2.2.2.2.1.1
  have hkk := kk p l e s m args below meth c H locs la hF hP hS hH
  have hcat := sv_sum (b := X.1) hst
  refine va_mmin hF.1 hF.2.1 (by rw [hF.2.2.2.1]; exact hH.1.symm) hF.2.2.2.2.1 (hwt.use hl rfl) (hwt.use hw.1 rfl) (hwt.use hw.2.1 rfl) (hwt.use hw.2.2 rfl) hR.1 (by omega) hc.1 hc.2 hd ?_
  have e : (if Int32.ofInt y < Int32.ofInt x then Int32.ofInt y else Int32.ofInt x) = Int32.ofInt (min x y) := by
    by_cases h : y < x
    · rw [if_pos ((sv_ltI hy hx).mpr h), show min x y = y by omega]
    · rw [if_neg (fun q => h ((sv_ltI hy hx).mp q)), show min x y = x by omega]
  rw [e]
  exact hkk
theorem sv_callI {M' : sv_M} {idx d mc ms i n : Nat} {As rest : List sv_V} {Q : sv_Q} (hl : sv_cI M.1.cls idx M' n) (hM : sv_C X d M' mc ms (sv_r i :: As) S f r g Q) (hR : d + 1 ≤ R.frames ∧ 8 + (M'.2.2.1 + 11) + 36 * d ≤ R.locals) (hc : kc + mc ≤ R.cells ∧ ks + ms ≤ R.slots) (hn : As.length = n) (hst : 2 * rest.length ≤ 8) (hd : decode M.2.1 pc = .ok (.invokespecial idx, 3))
    (kk : ∀ (rv : Option sv_V) (S' : sv_S) (f' : sv_F) (r' : sv_R) (g' : sv_G), Q rv S' f' r' g' → sv_T X R M Z (kc + mc) (ks + ms) (pc + 3) ls (rv.toList ++ rest) S' f' r' g') : sv_T X R M Z kc ks pc ls (As.reverse ++ sv_r i :: rest) S f r g := by
  intro p l e s m args below meth c H locs la hF hP hS hH
  have hKK := hF.2.2.2.2.2.2.2.1
  have hz := hF.2.2.2.2.2.2.2.2
  obtain ⟨⟨h1, h2, h3, h4, h5⟩, h6, h7, h8⟩ := hl
  have hwt := hKK.1
  have hcat := sv_roomy (m := m) (pc := pc) (la := la) (b := X.1) hst
  have go : va_Run p l e R s m args below meth c H locs kc ks mc ms (F0 m pc la ((As.reverse ++ sv_r i :: rest).map (sv_cv X.1))) (rest.map (sv_cv X.1)) (sv_Qc X Q (Value.ref (X.1 + i) :: As.map (sv_cv X.1)).toArray) (fun q => X.1 ≤ q) := by
    have hpv : PreS s H (va_Pc ((sv_r i :: As).map (sv_cv X.1)) (sv_Pc X S f r g)) (.ref (X.1 + i) :: As.map (sv_cv X.1)) := ⟨sv_blind, fun U hU hW => sv_pc hKK hz hS hP U hU hW⟩
    have hnp : ∀ sig, parseMethodDescriptor M'.1.desc = some sig → n = sig.parameters.length := fun sig hs => by
      rw [hs] at h4
      exact (Option.some.inj h4).symm
    have hstk : (F0 m pc la ((As.reverse ++ sv_r i :: rest).map (sv_cv X.1))).stack = (As.map (sv_cv X.1)).reverse ++ .ref (X.1 + i) :: rest.map (sv_cv X.1) := by
      show (As.reverse ++ sv_r i :: rest).map (sv_cv X.1) = _
      rw [List.map_append, List.map_reverse]
      rfl
    have hM' := hM l
    rw [h8] at hM' h1
    rcases h5 with h5 | ⟨host, h5⟩
    · exact va_runI (Ts := []) ⟨hF.1, hF.2.1, hF.2.2.2.1, hF.2.2.2.2.1, fun _ h => by cases h⟩ hM' ⟨⟨rfl, rfl, hR.1, hR.2, sv_good (M' := (M'.1, M'.2.1, M'.2.2.1, none)) hwt h1, List.mem_cons_self, hwt.use h1 rfl, hwt.use h2 rfl, h3, hnp, hwt.use h5 rfl⟩, h7, hwt.use h6 rfl⟩ hpv rfl (by rw [List.length_map]; exact hn) hH.1 hstk hcat hd hc
    · exact va_runIN (Ts := []) ⟨hF.1, hF.2.1, hF.2.2.2.1, hF.2.2.2.2.1, fun _ h => by cases h⟩ hM' ⟨⟨⟨rfl, rfl, hR.1, hR.2, sv_good (M' := (M'.1, M'.2.1, M'.2.2.1, none)) hwt h1, List.mem_cons_self⟩, hwt.use h1 rfl, hwt.use h2 rfl, h3, hnp, hwt.use h5 (by unfold sv_ok; exact Bool.or_true _)⟩, h7, hwt.use h6 rfl⟩ hpv rfl (by rw [List.length_map]; exact hn) hH.1 hstk hcat hd hc
  refine sv_goes go hS fun rv S' f' r' g' H1 locs1 hq hP1 hS1 => ?_
  have := kk rv S' f' r' g' hq p l e s m args below meth c H1 locs1 la hF hP1 hS1 hH
  rw [List.map_append] at this
  cases rv <;> exact this
theorem sv_objinit {idx i : Nat} (hl : Cond.methodLink M.1.cls idx Lib.objectInit ∈ lw_tbl) (hw : Cond.instanceMethod Lib.objectInit ∈ lw_tbl ∧ Cond.code Lib.objectInit ⟨#[0xb1]⟩ 1 none ∈ lw_tbl) (hst : 2 * st.length ≤ 8) (hR : 1 ≤ R.frames ∧ 36 ≤ R.locals) (hd : decode M.2.1 pc = .ok (.invokespecial idx, 3)) (kk : sv_T X R M Z kc ks (pc + 3) ls st S f r g) : sv_T X R M Z kc ks pc ls (sv_r i :: st) S f r g := by
  intro p l e s m args below meth c H locs la hF hP hS hH
  have hwt := hF.2.2.2.2.2.2.2.1.1
  have hkk := kk p l e s m args below meth c H locs la hF hP hS hH
  have hcat := sv_roomy (m := m) (pc := pc) (la := la) (b := X.1) hst
  exact W.objInit hF.1 hF.2.1 hF.2.2.2.2.1 (hwt.use hl rfl) (hwt.use hw.1 rfl) (hwt.use hw.2 rfl) (g := F0 m pc la ((sv_r i :: st).map (sv_cv X.1))) rfl (by rw [hF.2.2.2.1]; exact hH.1) (a := X.1 + i) (rest := st.map (sv_cv X.1)) rfl hd hR.1 (by have h9 : (F0 m pc la ((sv_r i :: st).map (sv_cv X.1))).monitorRoom = (F0 m pc la []).monitorRoom := rfl; rw [h9]; omega) hkk
end SVMORE
end
section
abbrev MX0_init : sv_M := (yX0_init, cX0_init, 1, none)
abbrev MX0_copyKept : sv_M := (yX0_copyKept, cX0_copyKept, 2, none)
abbrev MX0_makeWhole : sv_M := (yX0_makeWhole, cX0_makeWhole, 3, none)
abbrev MX0_makeDifference : sv_M := (yX0_makeDifference, cX0_makeDifference, 5, none)
abbrev MX0_weight : sv_M := (yX0_weight, cX0_weight, 1, some .int)
abbrev MX1_init : sv_M := (yX1_init, cX1_init, 2, none)
abbrev MX1_copyFrom : sv_M := (yX1_copyFrom, cX1_copyFrom, 3, none)
abbrev MX1_placeOf : sv_M := (yX1_placeOf, cX1_placeOf, 3, some .int)
abbrev MX1_baseOf : sv_M := (yX1_baseOf, cX1_baseOf, 3, some .int)
abbrev MX1_linksOf : sv_M := (yX1_linksOf, cX1_linksOf, 5, some .int)
abbrev MX1_longestChain : sv_M := (yX1_longestChain, cX1_longestChain, 3, some .int)
abbrev MX1_followersOf : sv_M := (yX1_followersOf, cX1_followersOf, 4, some .int)
abbrev MX1_wholeOnes : sv_M := (yX1_wholeOnes, cX1_wholeOnes, 1, some .int)
abbrev MX1_weight : sv_M := (yX1_weight, cX1_weight, 3, some .int)
abbrev MX1_removePlace : sv_M := (yX1_removePlace, cX1_removePlace, 4, none)
abbrev MX2_init : sv_M := (yX2_init, cX2_init, 1, none)
abbrev MX2_readAll : sv_M := (yX2_readAll, cX2_readAll, 3, none)
abbrev MX2_readPlace : sv_M := (yX2_readPlace, cX2_readPlace, 6, some .int)
abbrev MX3_init : sv_M := (yX3_init, cX3_init, 1, none)
abbrev MX3_run : sv_M := (yX3_run, cX3_run, 5, some .int)
abbrev MX3_runCommand : sv_M := (yX3_runCommand, cX3_runCommand, 2, none)
abbrev MX3_runSet : sv_M := (yX3_runSet, cX3_runSet, 3, none)
abbrev MX3_runAdd : sv_M := (yX3_runAdd, cX3_runAdd, 3, none)
abbrev MX3_runSwap : sv_M := (yX3_runSwap, cX3_runSwap, 4, none)
abbrev MX3_runFill : sv_M := (yX3_runFill, cX3_runFill, 5, none)
abbrev MX3_runTurn : sv_M := (yX3_runTurn, cX3_runTurn, 5, none)
abbrev MX3_failAt : sv_M := (yX3_failAt, cX3_failAt, 2, none)
abbrev MX3_isDigitNext : sv_M := (yX3_isDigitNext, cX3_isDigitNext, 1, some .boolean)
abbrev MX3_isLetterNext : sv_M := (yX3_isLetterNext, cX3_isLetterNext, 1, some .boolean)
abbrev MX3_isNext : sv_M := (yX3_isNext, cX3_isNext, 2, some .boolean)
abbrev MX3_skipBlanks : sv_M := (yX3_skipBlanks, cX3_skipBlanks, 1, none)
abbrev MX3_takeWord : sv_M := (yX3_takeWord, cX3_takeWord, 3, some .int)
abbrev MX3_wordAt : sv_M := (yX3_wordAt, cX3_wordAt, 2, some .int)
abbrev MX3_isSpelled : sv_M := (yX3_isSpelled, cX3_isSpelled, 4, some .boolean)
abbrev MX3_takeIndex : sv_M := (yX3_takeIndex, cX3_takeIndex, 4, some .int)
abbrev MX3_takeNumber : sv_M := (yX3_takeNumber, cX3_takeNumber, 1, some .int)
abbrev MX3_takeAmount : sv_M := (yX3_takeAmount, cX3_takeAmount, 1, some .int)
abbrev MX3_takeDigits : sv_M := (yX3_takeDigits, cX3_takeDigits, 2, some .int)
abbrev MX3_takeSemicolon : sv_M := (yX3_takeSemicolon, cX3_takeSemicolon, 1, none)
abbrev MX4_init : sv_M := (yX4_init, cX4_init, 2, none)
abbrev MX4_type : sv_M := (yX4_type, cX4_type, 2, some .int)
abbrev MX4_clear : sv_M := (yX4_clear, cX4_clear, 2, some .int)
abbrev MX4_play : sv_M := (yX4_play, cX4_play, 2, some .int)
abbrev MX4_raise : sv_M := (yX4_raise, cX4_raise, 1, some .int)
abbrev MX4_keep : sv_M := (yX4_keep, cX4_keep, 3, some .int)
abbrev MX4_load : sv_M := (yX4_load, cX4_load, 4, some .int)
abbrev MX4_drop : sv_M := (yX4_drop, cX4_drop, 4, some .int)
abbrev MX4_alter : sv_M := (yX4_alter, cX4_alter, 7, some .int)
abbrev MX4_pack : sv_M := (yX4_pack, cX4_pack, 3, some .int)
abbrev MX4_set : sv_M := (yX4_set, cX4_set, 6, some .int)
abbrev MX4_undo : sv_M := (yX4_undo, cX4_undo, 1, some .int)
abbrev MX4_value : sv_M := (yX4_value, cX4_value, 2, some .int)
abbrev MX4_kept : sv_M := (yX4_kept, cX4_kept, 4, some .int)
abbrev MX4_entry : sv_M := (yX4_entry, cX4_entry, 6, some .int)
abbrev MX4_read : sv_M := (yX4_read, cX4_read, 7, some .int)
abbrev MX4_cause : sv_M := (yX4_cause, cX4_cause, 4, some .int)
abbrev MX4_apart : sv_M := (yX4_apart, cX4_apart, 6, some .int)
abbrev MX4_fork : sv_M := (yX4_fork, cX4_fork, 6, some .int)
abbrev MX4_nearest : sv_M := (yX4_nearest, cX4_nearest, 1, some .int)
abbrev MX4_count : sv_M := (yX4_count, cX4_count, 2, some .int)
abbrev MX4_digest : sv_M := (yX4_digest, cX4_digest, 4, some .long)
abbrev MX4_remember : sv_M := (yX4_remember, cX4_remember, 3, none)
abbrev MX4_baseForGame : sv_M := (yX4_baseForGame, cX4_baseForGame, 2, some .int)
abbrev MX4_canBeBase : sv_M := (yX4_canBeBase, cX4_canBeBase, 4, some .boolean)
abbrev MX4_mendFollowers : sv_M := (yX4_mendFollowers, cX4_mendFollowers, 4, none)
abbrev MX4_packPlace : sv_M := (yX4_packPlace, cX4_packPlace, 8, none)
abbrev MX4_propertyOf : sv_M := (yX4_propertyOf, cX4_propertyOf, 4, some .int)
abbrev MX4_tally : sv_M := (yX4_tally, cX4_tally, 2, some .int)
abbrev MX4_unreadable : sv_M := (yX4_unreadable, cX4_unreadable, 3, some .int)
abbrev MX4_reasonOf : sv_M := (yX4_reasonOf, cX4_reasonOf, 3, some .int)
abbrev MX4_causeOf : sv_M := (yX4_causeOf, cX4_causeOf, 6, some .int)
abbrev MX4_nearestToGame : sv_M := (yX4_nearestToGame, cX4_nearestToGame, 6, some .int)
abbrev MX4_addPlace : sv_M := (yX4_addPlace, cX4_addPlace, 8, some .long)
abbrev MX4_distance : sv_M := (yX4_distance, cX4_distance, 6, some .int)
abbrev MX4_raiseRead : sv_M := (yX4_raiseRead, cX4_raiseRead, 4, none)
abbrev MX4_sizeOf : sv_M := (yX4_sizeOf, cX4_sizeOf, 1, some .int)
abbrev MX4_sumOf : sv_M := (yX4_sumOf, cX4_sumOf, 4, some .int)
abbrev MX4_raiseValues : sv_M := (yX4_raiseValues, cX4_raiseValues, 4, none)
abbrev MX5_init : sv_M := (yX5_init, cX5_init, 1, none)
abbrev MX5_in : sv_M := (yX5_in, cX5_in, 3, some .boolean)
abbrev MX5_valuesOf : sv_M := (yX5_valuesOf, cX5_valuesOf, 1, some .int)
abbrev MX5_of : sv_M := (yX5_of, cX5_of, 3, some .int)
abbrev MX5_put : sv_M := (yX5_put, cX5_put, 4, none)
abbrev MX5_isWhole : sv_M := (yX5_isWhole, cX5_isWhole, 2, some .boolean)
abbrev MX5_keeps : sv_M := (yX5_keeps, cX5_keeps, 2, none)
abbrev MX5_undo : sv_M := (yX5_undo, cX5_undo, 2, some .int)
abbrev MX5_slotOf : sv_M := (yX5_slotOf, cX5_slotOf, 3, some .int)
abbrev MX5_raises : sv_M := (yX5_raises, cX5_raises, 2, none)
abbrev MX5_raisesTo : sv_M := (yX5_raisesTo, cX5_raisesTo, 2, none)
abbrev MX5_sumNow : sv_M := (yX5_sumNow, cX5_sumNow, 3, some .int)
abbrev MX5_takesGame : sv_M := (yX5_takesGame, cX5_takesGame, 2, none)
abbrev MX5_givesGame : sv_M := (yX5_givesGame, cX5_givesGame, 2, none)
abbrev MX5_climbs : sv_M := (yX5_climbs, cX5_climbs, 4, none)
abbrev MX5_reads : sv_M := (yX5_reads, cX5_reads, 5, some .boolean)
abbrev MX5_linksOf : sv_M := (yX5_linksOf, cX5_linksOf, 2, some .int)
abbrev MX5_setsAside : sv_M := (yX5_setsAside, cX5_setsAside, 2, none)
abbrev MX5_differences : sv_M := (yX5_differences, cX5_differences, 4, some .int)
abbrev MX5_writesWhole : sv_M := (yX5_writesWhole, cX5_writesWhole, 4, none)
abbrev MX5_writesDifference : sv_M := (yX5_writesDifference, cX5_writesDifference, 5, none)
abbrev MX5_type : sv_M := (yX5_type, cX5_type, 2, some .int)
abbrev MX5_clear : sv_M := (yX5_clear, cX5_clear, 2, some .int)
abbrev MX5_next : sv_M := (yX5_next, cX5_next, 1, some .int)
abbrev MX5_isDigit : sv_M := (yX5_isDigit, cX5_isDigit, 1, some .boolean)
abbrev MX5_skips : sv_M := (yX5_skips, cX5_skips, 1, none)
abbrev MX5_fails : sv_M := (yX5_fails, cX5_fails, 2, none)
abbrev MX5_number : sv_M := (yX5_number, cX5_number, 5, some .int)
abbrev MX5_amount : sv_M := (yX5_amount, cX5_amount, 3, some .int)
abbrev MX5_isWord : sv_M := (yX5_isWord, cX5_isWord, 6, some .boolean)
abbrev MX5_wordOf : sv_M := (yX5_wordOf, cX5_wordOf, 2, some .int)
abbrev MX5_readsCommand : sv_M := (yX5_readsCommand, cX5_readsCommand, 5, none)
abbrev MX5_readsScript : sv_M := (yX5_readsScript, cX5_readsScript, 1, none)
abbrev MX5_turns : sv_M := (yX5_turns, cX5_turns, 5, none)
abbrev MX5_does : sv_M := (yX5_does, cX5_does, 5, none)
abbrev MX5_play : sv_M := (yX5_play, cX5_play, 2, some .int)
abbrev MX5_raise : sv_M := (yX5_raise, cX5_raise, 1, some .int)
abbrev MX5_isNear : sv_M := (yX5_isNear, cX5_isNear, 1, some .boolean)
abbrev MX5_keep : sv_M := (yX5_keep, cX5_keep, 4, some .int)
abbrev MX5_load : sv_M := (yX5_load, cX5_load, 2, some .int)
abbrev MX5_basedOn : sv_M := (yX5_basedOn, cX5_basedOn, 4, some .int)
abbrev MX5_drop : sv_M := (yX5_drop, cX5_drop, 5, some .int)
abbrev MX5_alter : sv_M := (yX5_alter, cX5_alter, 6, some .int)
abbrev MX5_weight : sv_M := (yX5_weight, cX5_weight, 2, some .int)
abbrev MX5_weights : sv_M := (yX5_weights, cX5_weights, 3, some .int)
abbrev MX5_nearestBase : sv_M := (yX5_nearestBase, cX5_nearestBase, 6, some .int)
abbrev MX5_pack : sv_M := (yX5_pack, cX5_pack, 4, some .int)
abbrev MX5_set : sv_M := (yX5_set, cX5_set, 4, some .int)
abbrev MX5_value : sv_M := (yX5_value, cX5_value, 2, some .int)
abbrev MX5_part : sv_M := (yX5_part, cX5_part, 3, some .int)
abbrev MX5_kept : sv_M := (yX5_kept, cX5_kept, 4, some .int)
abbrev MX5_entry : sv_M := (yX5_entry, cX5_entry, 5, some .int)
abbrev MX5_read : sv_M := (yX5_read, cX5_read, 5, some .int)
abbrev MX5_cause : sv_M := (yX5_cause, cX5_cause, 6, some .int)
abbrev MX5_apart : sv_M := (yX5_apart, cX5_apart, 6, some .int)
abbrev MX5_isInChain : sv_M := (yX5_isInChain, cX5_isInChain, 4, some .boolean)
abbrev MX5_fork : sv_M := (yX5_fork, cX5_fork, 5, some .int)
abbrev MX5_nearest : sv_M := (yX5_nearest, cX5_nearest, 6, some .int)
abbrev MX5_counts : sv_M := (yX5_counts, cX5_counts, 4, some .int)
abbrev MX5_longest : sv_M := (yX5_longest, cX5_longest, 4, some .int)
abbrev MX5_count : sv_M := (yX5_count, cX5_count, 2, some .int)
abbrev MX5_mixes : sv_M := (yX5_mixes, cX5_mixes, 3, none)
abbrev MX5_mixesKept : sv_M := (yX5_mixesKept, cX5_mixesKept, 3, none)
abbrev MX5_digest : sv_M := (yX5_digest, cX5_digest, 2, some .long)
theorem flX0_9 : sv_fl RX0 9 0 0 false := ⟨_, sv_cb0, by decide, rfl, rfl, Or.inl (List.mem_of_getElem? (i := 123) (by decide +kernel))⟩
theorem flX1_48 : sv_fl RX1 48 0 0 false := ⟨_, sv_cb0, by decide, rfl, rfl, Or.inr ⟨"StateVault", List.mem_of_getElem? (i := 124) (by decide +kernel)⟩⟩
theorem flX4_93 : sv_fl RX4 93 0 0 false := ⟨_, sv_cb0, by decide, rfl, rfl, Or.inr ⟨"StateVault", List.mem_of_getElem? (i := 125) (by decide +kernel)⟩⟩
theorem flX0_15 : sv_fl RX0 15 0 1 false := ⟨_, sv_cb0, by decide, rfl, rfl, Or.inl (List.mem_of_getElem? (i := 126) (by decide +kernel))⟩
theorem flX2_49 : sv_fl RX2 49 0 1 false := ⟨_, sv_cb0, by decide, rfl, rfl, Or.inr ⟨"StateVault", List.mem_of_getElem? (i := 127) (by decide +kernel)⟩⟩
theorem flX4_98 : sv_fl RX4 98 0 1 false := ⟨_, sv_cb0, by decide, rfl, rfl, Or.inr ⟨"StateVault", List.mem_of_getElem? (i := 128) (by decide +kernel)⟩⟩
theorem flX0_18 : sv_fl RX0 18 0 2 false := ⟨_, sv_cb0, by decide, rfl, rfl, Or.inl (List.mem_of_getElem? (i := 129) (by decide +kernel))⟩
theorem flX2_67 : sv_fl RX2 67 0 2 false := ⟨_, sv_cb0, by decide, rfl, rfl, Or.inr ⟨"StateVault", List.mem_of_getElem? (i := 130) (by decide +kernel)⟩⟩
theorem flX4_102 : sv_fl RX4 102 0 2 false := ⟨_, sv_cb0, by decide, rfl, rfl, Or.inr ⟨"StateVault", List.mem_of_getElem? (i := 131) (by decide +kernel)⟩⟩
theorem flX0_21 : sv_fl RX0 21 0 3 false := ⟨_, sv_cb0, by decide, rfl, rfl, Or.inl (List.mem_of_getElem? (i := 132) (by decide +kernel))⟩
theorem flX2_34 : sv_fl RX2 34 0 3 false := ⟨_, sv_cb0, by decide, rfl, rfl, Or.inr ⟨"StateVault", List.mem_of_getElem? (i := 133) (by decide +kernel)⟩⟩
theorem flX1_55 : sv_fl RX1 55 0 3 false := ⟨_, sv_cb0, by decide, rfl, rfl, Or.inr ⟨"StateVault", List.mem_of_getElem? (i := 134) (by decide +kernel)⟩⟩
theorem flX4_198 : sv_fl RX4 198 0 3 false := ⟨_, sv_cb0, by decide, rfl, rfl, Or.inr ⟨"StateVault", List.mem_of_getElem? (i := 135) (by decide +kernel)⟩⟩
theorem flX0_24 : sv_fl RX0 24 0 4 false := ⟨_, sv_cb0, by decide, rfl, rfl, Or.inl (List.mem_of_getElem? (i := 136) (by decide +kernel))⟩
theorem flX2_56 : sv_fl RX2 56 0 4 false := ⟨_, sv_cb0, by decide, rfl, rfl, Or.inr ⟨"StateVault", List.mem_of_getElem? (i := 137) (by decide +kernel)⟩⟩
theorem flX4_149 : sv_fl RX4 149 0 4 false := ⟨_, sv_cb0, by decide, rfl, rfl, Or.inr ⟨"StateVault", List.mem_of_getElem? (i := 138) (by decide +kernel)⟩⟩
theorem flX0_27 : sv_fl RX0 27 0 5 true := ⟨_, sv_cb0, by decide, rfl, rfl, Or.inl (List.mem_of_getElem? (i := 139) (by decide +kernel))⟩
theorem flX2_57 : sv_fl RX2 57 0 5 true := ⟨_, sv_cb0, by decide, rfl, rfl, Or.inr ⟨"StateVault", List.mem_of_getElem? (i := 140) (by decide +kernel)⟩⟩
theorem flX4_163 : sv_fl RX4 163 0 5 true := ⟨_, sv_cb0, by decide, rfl, rfl, Or.inr ⟨"StateVault", List.mem_of_getElem? (i := 141) (by decide +kernel)⟩⟩
theorem flX0_31 : sv_fl RX0 31 0 6 true := ⟨_, sv_cb0, by decide, rfl, rfl, Or.inl (List.mem_of_getElem? (i := 142) (by decide +kernel))⟩
theorem flX2_60 : sv_fl RX2 60 0 6 true := ⟨_, sv_cb0, by decide, rfl, rfl, Or.inr ⟨"StateVault", List.mem_of_getElem? (i := 143) (by decide +kernel)⟩⟩
theorem flX4_150 : sv_fl RX4 150 0 6 true := ⟨_, sv_cb0, by decide, rfl, rfl, Or.inr ⟨"StateVault", List.mem_of_getElem? (i := 144) (by decide +kernel)⟩⟩
theorem flX1_9 : sv_fl RX1 9 1 0 false := ⟨_, sv_cb1, by decide, rfl, rfl, Or.inl (List.mem_of_getElem? (i := 161) (by decide +kernel))⟩
theorem flX4_54 : sv_fl RX4 54 1 0 false := ⟨_, sv_cb1, by decide, rfl, rfl, Or.inr ⟨"StateVault", List.mem_of_getElem? (i := 162) (by decide +kernel)⟩⟩
theorem flX1_15 : sv_fl RX1 15 1 1 false := ⟨_, sv_cb1, by decide, rfl, rfl, Or.inl (List.mem_of_getElem? (i := 163) (by decide +kernel))⟩
theorem flX4_117 : sv_fl RX4 117 1 1 false := ⟨_, sv_cb1, by decide, rfl, rfl, Or.inr ⟨"StateVault", List.mem_of_getElem? (i := 164) (by decide +kernel)⟩⟩
theorem flX1_18 : sv_fl RX1 18 1 2 false := ⟨_, sv_cb1, by decide, rfl, rfl, Or.inl (List.mem_of_getElem? (i := 165) (by decide +kernel))⟩
theorem flX4_82 : sv_fl RX4 82 1 2 false := ⟨_, sv_cb1, by decide, rfl, rfl, Or.inr ⟨"StateVault", List.mem_of_getElem? (i := 166) (by decide +kernel)⟩⟩
theorem flX1_21 : sv_fl RX1 21 1 3 false := ⟨_, sv_cb1, by decide, rfl, rfl, Or.inl (List.mem_of_getElem? (i := 167) (by decide +kernel))⟩
theorem flX2_20 : sv_fl RX2 20 1 3 false := ⟨_, sv_cb1, by decide, rfl, rfl, Or.inr ⟨"StateVault", List.mem_of_getElem? (i := 168) (by decide +kernel)⟩⟩
theorem flX4_79 : sv_fl RX4 79 1 3 false := ⟨_, sv_cb1, by decide, rfl, rfl, Or.inr ⟨"StateVault", List.mem_of_getElem? (i := 169) (by decide +kernel)⟩⟩
theorem flX1_24 : sv_fl RX1 24 1 4 true := ⟨_, sv_cb1, by decide, rfl, rfl, Or.inl (List.mem_of_getElem? (i := 170) (by decide +kernel))⟩
theorem flX4_51 : sv_fl RX4 51 1 4 true := ⟨_, sv_cb1, by decide, rfl, rfl, Or.inr ⟨"StateVault", List.mem_of_getElem? (i := 171) (by decide +kernel)⟩⟩
theorem flX1_28 : sv_fl RX1 28 1 5 true := ⟨_, sv_cb1, by decide, rfl, rfl, Or.inl (List.mem_of_getElem? (i := 172) (by decide +kernel))⟩
theorem flX4_130 : sv_fl RX4 130 1 5 true := ⟨_, sv_cb1, by decide, rfl, rfl, Or.inr ⟨"StateVault", List.mem_of_getElem? (i := 173) (by decide +kernel)⟩⟩
theorem flX1_33 : sv_fl RX1 33 1 6 true := ⟨_, sv_cb1, by decide, rfl, rfl, Or.inl (List.mem_of_getElem? (i := 174) (by decide +kernel))⟩
theorem flX2_30 : sv_fl RX2 30 1 6 true := ⟨_, sv_cb1, by decide, rfl, rfl, Or.inr ⟨"StateVault", List.mem_of_getElem? (i := 175) (by decide +kernel)⟩⟩
theorem flX4_89 : sv_fl RX4 89 1 6 true := ⟨_, sv_cb1, by decide, rfl, rfl, Or.inr ⟨"StateVault", List.mem_of_getElem? (i := 176) (by decide +kernel)⟩⟩
theorem flX3_9 : sv_fl RX3 9 3 0 true := ⟨_, sv_cb3, by decide, rfl, rfl, Or.inl (List.mem_of_getElem? (i := 199) (by decide +kernel))⟩
theorem flX4_48 : sv_fl RX4 48 3 0 true := ⟨_, sv_cb3, by decide, rfl, rfl, Or.inr ⟨"StateVault", List.mem_of_getElem? (i := 200) (by decide +kernel)⟩⟩
theorem flX3_15 : sv_fl RX3 15 3 1 false := ⟨_, sv_cb3, by decide, rfl, rfl, Or.inl (List.mem_of_getElem? (i := 201) (by decide +kernel))⟩
theorem flX4_45 : sv_fl RX4 45 3 1 false := ⟨_, sv_cb3, by decide, rfl, rfl, Or.inr ⟨"StateVault", List.mem_of_getElem? (i := 202) (by decide +kernel)⟩⟩
theorem flX3_19 : sv_fl RX3 19 3 2 true := ⟨_, sv_cb3, by decide, rfl, rfl, Or.inl (List.mem_of_getElem? (i := 203) (by decide +kernel))⟩
theorem flX4_68 : sv_fl RX4 68 3 2 true := ⟨_, sv_cb3, by decide, rfl, rfl, Or.inr ⟨"StateVault", List.mem_of_getElem? (i := 204) (by decide +kernel)⟩⟩
theorem flX3_22 : sv_fl RX3 22 3 3 false := ⟨_, sv_cb3, by decide, rfl, rfl, Or.inl (List.mem_of_getElem? (i := 205) (by decide +kernel))⟩
theorem flX3_25 : sv_fl RX3 25 3 4 false := ⟨_, sv_cb3, by decide, rfl, rfl, Or.inl (List.mem_of_getElem? (i := 206) (by decide +kernel))⟩
theorem flX3_28 : sv_fl RX3 28 3 5 false := ⟨_, sv_cb3, by decide, rfl, rfl, Or.inl (List.mem_of_getElem? (i := 207) (by decide +kernel))⟩
theorem flX2_11 : sv_fl RX2 11 2 0 true := ⟨_, sv_cb2, by decide, rfl, rfl, Or.inl (List.mem_of_getElem? (i := 229) (by decide +kernel))⟩
theorem flX4_201 : sv_fl RX4 201 2 0 true := ⟨_, sv_cb2, by decide, rfl, rfl, Or.inr ⟨"StateVault", List.mem_of_getElem? (i := 230) (by decide +kernel)⟩⟩
theorem flX2_16 : sv_fl RX2 16 2 1 true := ⟨_, sv_cb2, by decide, rfl, rfl, Or.inl (List.mem_of_getElem? (i := 231) (by decide +kernel))⟩
theorem flX4_127 : sv_fl RX4 127 2 1 true := ⟨_, sv_cb2, by decide, rfl, rfl, Or.inr ⟨"StateVault", List.mem_of_getElem? (i := 232) (by decide +kernel)⟩⟩
theorem flX4_10 : sv_fl RX4 10 4 0 true := ⟨_, sv_cb4, by decide, rfl, rfl, Or.inl (List.mem_of_getElem? (i := 238) (by decide +kernel))⟩
theorem flX4_16 : sv_fl RX4 16 4 1 true := ⟨_, sv_cb4, by decide, rfl, rfl, Or.inl (List.mem_of_getElem? (i := 239) (by decide +kernel))⟩
theorem flX4_20 : sv_fl RX4 20 4 2 false := ⟨_, sv_cb4, by decide, rfl, rfl, Or.inl (List.mem_of_getElem? (i := 240) (by decide +kernel))⟩
theorem flX4_27 : sv_fl RX4 27 4 3 true := ⟨_, sv_cb4, by decide, rfl, rfl, Or.inl (List.mem_of_getElem? (i := 241) (by decide +kernel))⟩
theorem flX4_34 : sv_fl RX4 34 4 4 true := ⟨_, sv_cb4, by decide, rfl, rfl, Or.inl (List.mem_of_getElem? (i := 242) (by decide +kernel))⟩
theorem flX4_38 : sv_fl RX4 38 4 5 true := ⟨_, sv_cb4, by decide, rfl, rfl, Or.inl (List.mem_of_getElem? (i := 243) (by decide +kernel))⟩
theorem flX4_42 : sv_fl RX4 42 4 6 true := ⟨_, sv_cb4, by decide, rfl, rfl, Or.inl (List.mem_of_getElem? (i := 244) (by decide +kernel))⟩
theorem flX5_7 : sv_fl RX5 7 5 0 true := ⟨_, sv_cb5, by decide, rfl, rfl, Or.inl (List.mem_of_getElem? (i := 636) (by decide +kernel))⟩
theorem flX5_13 : sv_fl RX5 13 5 1 true := ⟨_, sv_cb5, by decide, rfl, rfl, Or.inl (List.mem_of_getElem? (i := 637) (by decide +kernel))⟩
theorem flX5_42 : sv_fl RX5 42 5 2 false := ⟨_, sv_cb5, by decide, rfl, rfl, Or.inl (List.mem_of_getElem? (i := 638) (by decide +kernel))⟩
theorem flX5_16 : sv_fl RX5 16 5 3 true := ⟨_, sv_cb5, by decide, rfl, rfl, Or.inl (List.mem_of_getElem? (i := 639) (by decide +kernel))⟩
theorem flX5_46 : sv_fl RX5 46 5 4 false := ⟨_, sv_cb5, by decide, rfl, rfl, Or.inl (List.mem_of_getElem? (i := 640) (by decide +kernel))⟩
theorem flX5_19 : sv_fl RX5 19 5 5 true := ⟨_, sv_cb5, by decide, rfl, rfl, Or.inl (List.mem_of_getElem? (i := 641) (by decide +kernel))⟩
theorem flX5_22 : sv_fl RX5 22 5 6 true := ⟨_, sv_cb5, by decide, rfl, rfl, Or.inl (List.mem_of_getElem? (i := 642) (by decide +kernel))⟩
theorem flX5_56 : sv_fl RX5 56 5 7 false := ⟨_, sv_cb5, by decide, rfl, rfl, Or.inl (List.mem_of_getElem? (i := 643) (by decide +kernel))⟩
theorem flX5_25 : sv_fl RX5 25 5 8 true := ⟨_, sv_cb5, by decide, rfl, rfl, Or.inl (List.mem_of_getElem? (i := 644) (by decide +kernel))⟩
theorem flX5_28 : sv_fl RX5 28 5 9 true := ⟨_, sv_cb5, by decide, rfl, rfl, Or.inl (List.mem_of_getElem? (i := 645) (by decide +kernel))⟩
theorem flX5_85 : sv_fl RX5 85 5 10 false := ⟨_, sv_cb5, by decide, rfl, rfl, Or.inl (List.mem_of_getElem? (i := 646) (by decide +kernel))⟩
theorem flX5_88 : sv_fl RX5 88 5 11 false := ⟨_, sv_cb5, by decide, rfl, rfl, Or.inl (List.mem_of_getElem? (i := 647) (by decide +kernel))⟩
theorem flX5_94 : sv_fl RX5 94 5 12 false := ⟨_, sv_cb5, by decide, rfl, rfl, Or.inl (List.mem_of_getElem? (i := 648) (by decide +kernel))⟩
theorem flX5_31 : sv_fl RX5 31 5 13 true := ⟨_, sv_cb5, by decide, rfl, rfl, Or.inl (List.mem_of_getElem? (i := 649) (by decide +kernel))⟩
theorem flX5_121 : sv_fl RX5 121 5 14 false := ⟨_, sv_cb5, by decide, rfl, rfl, Or.inl (List.mem_of_getElem? (i := 650) (by decide +kernel))⟩
theorem flX5_34 : sv_fl RX5 34 5 15 true := ⟨_, sv_cb5, by decide, rfl, rfl, Or.inl (List.mem_of_getElem? (i := 651) (by decide +kernel))⟩
theorem flX5_196 : sv_fl RX5 196 5 16 false := ⟨_, sv_cb5, by decide, rfl, rfl, Or.inl (List.mem_of_getElem? (i := 652) (by decide +kernel))⟩
theorem ckX0_init : Cond.code MX0_init.1 MX0_init.2.1 MX0_init.2.2.1 MX0_init.2.2.2 ∈ lw_tbl ∧ Cond.initialized MX0_init.1.cls ∈ lw_tbl ∧ (MX0_init.1.cls ≠ "java/lang/invoke/MethodHandle" ∧ MX0_init.1.cls ≠ "java/lang/invoke/VarHandle") ∧ (parseMethodDescriptor MX0_init.1.desc).map (fun d => d.parameters.length) = some 0 := ⟨List.mem_of_getElem? (i := 121) (by decide +kernel), List.mem_of_getElem? (i := 92) (by decide +kernel), ⟨by decide +kernel, by decide +kernel⟩, by decide +kernel⟩
theorem ckX0_copyKept : Cond.code MX0_copyKept.1 MX0_copyKept.2.1 MX0_copyKept.2.2.1 MX0_copyKept.2.2.2 ∈ lw_tbl ∧ Cond.initialized MX0_copyKept.1.cls ∈ lw_tbl ∧ (MX0_copyKept.1.cls ≠ "java/lang/invoke/MethodHandle" ∧ MX0_copyKept.1.cls ≠ "java/lang/invoke/VarHandle") ∧ (parseMethodDescriptor MX0_copyKept.1.desc).map (fun d => d.parameters.length) = some 1 := ⟨List.mem_of_getElem? (i := 429) (by decide +kernel), List.mem_of_getElem? (i := 92) (by decide +kernel), ⟨by decide +kernel, by decide +kernel⟩, by decide +kernel⟩
theorem ckX0_makeWhole : Cond.code MX0_makeWhole.1 MX0_makeWhole.2.1 MX0_makeWhole.2.2.1 MX0_makeWhole.2.2.2 ∈ lw_tbl ∧ Cond.initialized MX0_makeWhole.1.cls ∈ lw_tbl ∧ (MX0_makeWhole.1.cls ≠ "java/lang/invoke/MethodHandle" ∧ MX0_makeWhole.1.cls ≠ "java/lang/invoke/VarHandle") ∧ (parseMethodDescriptor MX0_makeWhole.1.desc).map (fun d => d.parameters.length) = some 1 := ⟨List.mem_of_getElem? (i := 492) (by decide +kernel), List.mem_of_getElem? (i := 92) (by decide +kernel), ⟨by decide +kernel, by decide +kernel⟩, by decide +kernel⟩
theorem ckX0_makeDifference : Cond.code MX0_makeDifference.1 MX0_makeDifference.2.1 MX0_makeDifference.2.2.1 MX0_makeDifference.2.2.2 ∈ lw_tbl ∧ Cond.initialized MX0_makeDifference.1.cls ∈ lw_tbl ∧ (MX0_makeDifference.1.cls ≠ "java/lang/invoke/MethodHandle" ∧ MX0_makeDifference.1.cls ≠ "java/lang/invoke/VarHandle") ∧ (parseMethodDescriptor MX0_makeDifference.1.desc).map (fun d => d.parameters.length) = some 3 := ⟨List.mem_of_getElem? (i := 497) (by decide +kernel), List.mem_of_getElem? (i := 92) (by decide +kernel), ⟨by decide +kernel, by decide +kernel⟩, by decide +kernel⟩
theorem ckX0_weight : Cond.code MX0_weight.1 MX0_weight.2.1 MX0_weight.2.2.1 MX0_weight.2.2.2 ∈ lw_tbl ∧ Cond.initialized MX0_weight.1.cls ∈ lw_tbl ∧ (MX0_weight.1.cls ≠ "java/lang/invoke/MethodHandle" ∧ MX0_weight.1.cls ≠ "java/lang/invoke/VarHandle") ∧ (parseMethodDescriptor MX0_weight.1.desc).map (fun d => d.parameters.length) = some 0 := ⟨List.mem_of_getElem? (i := 534) (by decide +kernel), List.mem_of_getElem? (i := 92) (by decide +kernel), ⟨by decide +kernel, by decide +kernel⟩, by decide +kernel⟩
theorem ckX1_init : Cond.code MX1_init.1 MX1_init.2.1 MX1_init.2.2.1 MX1_init.2.2.2 ∈ lw_tbl ∧ Cond.initialized MX1_init.1.cls ∈ lw_tbl ∧ (MX1_init.1.cls ≠ "java/lang/invoke/MethodHandle" ∧ MX1_init.1.cls ≠ "java/lang/invoke/VarHandle") ∧ (parseMethodDescriptor MX1_init.1.desc).map (fun d => d.parameters.length) = some 0 := ⟨List.mem_of_getElem? (i := 114) (by decide +kernel), List.mem_of_getElem? (i := 91) (by decide +kernel), ⟨by decide +kernel, by decide +kernel⟩, by decide +kernel⟩
theorem ckX1_copyFrom : Cond.code MX1_copyFrom.1 MX1_copyFrom.2.1 MX1_copyFrom.2.2.1 MX1_copyFrom.2.2.2 ∈ lw_tbl ∧ Cond.initialized MX1_copyFrom.1.cls ∈ lw_tbl ∧ (MX1_copyFrom.1.cls ≠ "java/lang/invoke/MethodHandle" ∧ MX1_copyFrom.1.cls ≠ "java/lang/invoke/VarHandle") ∧ (parseMethodDescriptor MX1_copyFrom.1.desc).map (fun d => d.parameters.length) = some 1 := ⟨List.mem_of_getElem? (i := 424) (by decide +kernel), List.mem_of_getElem? (i := 91) (by decide +kernel), ⟨by decide +kernel, by decide +kernel⟩, by decide +kernel⟩
theorem ckX1_placeOf : Cond.code MX1_placeOf.1 MX1_placeOf.2.1 MX1_placeOf.2.2.1 MX1_placeOf.2.2.2 ∈ lw_tbl ∧ Cond.initialized MX1_placeOf.1.cls ∈ lw_tbl ∧ (MX1_placeOf.1.cls ≠ "java/lang/invoke/MethodHandle" ∧ MX1_placeOf.1.cls ≠ "java/lang/invoke/VarHandle") ∧ (parseMethodDescriptor MX1_placeOf.1.desc).map (fun d => d.parameters.length) = some 1 := ⟨List.mem_of_getElem? (i := 456) (by decide +kernel), List.mem_of_getElem? (i := 91) (by decide +kernel), ⟨by decide +kernel, by decide +kernel⟩, by decide +kernel⟩
theorem ckX1_baseOf : Cond.code MX1_baseOf.1 MX1_baseOf.2.1 MX1_baseOf.2.2.1 MX1_baseOf.2.2.2 ∈ lw_tbl ∧ Cond.initialized MX1_baseOf.1.cls ∈ lw_tbl ∧ (MX1_baseOf.1.cls ≠ "java/lang/invoke/MethodHandle" ∧ MX1_baseOf.1.cls ≠ "java/lang/invoke/VarHandle") ∧ (parseMethodDescriptor MX1_baseOf.1.desc).map (fun d => d.parameters.length) = some 1 := ⟨List.mem_of_getElem? (i := 479) (by decide +kernel), List.mem_of_getElem? (i := 91) (by decide +kernel), ⟨by decide +kernel, by decide +kernel⟩, by decide +kernel⟩
theorem ckX1_linksOf : Cond.code MX1_linksOf.1 MX1_linksOf.2.1 MX1_linksOf.2.2.1 MX1_linksOf.2.2.2 ∈ lw_tbl ∧ Cond.initialized MX1_linksOf.1.cls ∈ lw_tbl ∧ (MX1_linksOf.1.cls ≠ "java/lang/invoke/MethodHandle" ∧ MX1_linksOf.1.cls ≠ "java/lang/invoke/VarHandle") ∧ (parseMethodDescriptor MX1_linksOf.1.desc).map (fun d => d.parameters.length) = some 1 := ⟨List.mem_of_getElem? (i := 475) (by decide +kernel), List.mem_of_getElem? (i := 91) (by decide +kernel), ⟨by decide +kernel, by decide +kernel⟩, by decide +kernel⟩
theorem ckX1_longestChain : Cond.code MX1_longestChain.1 MX1_longestChain.2.1 MX1_longestChain.2.2.1 MX1_longestChain.2.2.2 ∈ lw_tbl ∧ Cond.initialized MX1_longestChain.1.cls ∈ lw_tbl ∧ (MX1_longestChain.1.cls ≠ "java/lang/invoke/MethodHandle" ∧ MX1_longestChain.1.cls ≠ "java/lang/invoke/VarHandle") ∧ (parseMethodDescriptor MX1_longestChain.1.desc).map (fun d => d.parameters.length) = some 0 := ⟨List.mem_of_getElem? (i := 617) (by decide +kernel), List.mem_of_getElem? (i := 91) (by decide +kernel), ⟨by decide +kernel, by decide +kernel⟩, by decide +kernel⟩
theorem ckX1_followersOf : Cond.code MX1_followersOf.1 MX1_followersOf.2.1 MX1_followersOf.2.2.1 MX1_followersOf.2.2.2 ∈ lw_tbl ∧ Cond.initialized MX1_followersOf.1.cls ∈ lw_tbl ∧ (MX1_followersOf.1.cls ≠ "java/lang/invoke/MethodHandle" ∧ MX1_followersOf.1.cls ≠ "java/lang/invoke/VarHandle") ∧ (parseMethodDescriptor MX1_followersOf.1.desc).map (fun d => d.parameters.length) = some 1 := ⟨List.mem_of_getElem? (i := 518) (by decide +kernel), List.mem_of_getElem? (i := 91) (by decide +kernel), ⟨by decide +kernel, by decide +kernel⟩, by decide +kernel⟩
theorem ckX1_wholeOnes : Cond.code MX1_wholeOnes.1 MX1_wholeOnes.2.1 MX1_wholeOnes.2.2.1 MX1_wholeOnes.2.2.2 ∈ lw_tbl ∧ Cond.initialized MX1_wholeOnes.1.cls ∈ lw_tbl ∧ (MX1_wholeOnes.1.cls ≠ "java/lang/invoke/MethodHandle" ∧ MX1_wholeOnes.1.cls ≠ "java/lang/invoke/VarHandle") ∧ (parseMethodDescriptor MX1_wholeOnes.1.desc).map (fun d => d.parameters.length) = some 0 := ⟨List.mem_of_getElem? (i := 608) (by decide +kernel), List.mem_of_getElem? (i := 91) (by decide +kernel), ⟨by decide +kernel, by decide +kernel⟩, by decide +kernel⟩
theorem ckX1_weight : Cond.code MX1_weight.1 MX1_weight.2.1 MX1_weight.2.2.1 MX1_weight.2.2.2 ∈ lw_tbl ∧ Cond.initialized MX1_weight.1.cls ∈ lw_tbl ∧ (MX1_weight.1.cls ≠ "java/lang/invoke/MethodHandle" ∧ MX1_weight.1.cls ≠ "java/lang/invoke/VarHandle") ∧ (parseMethodDescriptor MX1_weight.1.desc).map (fun d => d.parameters.length) = some 0 := ⟨List.mem_of_getElem? (i := 530) (by decide +kernel), List.mem_of_getElem? (i := 91) (by decide +kernel), ⟨by decide +kernel, by decide +kernel⟩, by decide +kernel⟩
theorem ckX1_removePlace : Cond.code MX1_removePlace.1 MX1_removePlace.2.1 MX1_removePlace.2.2.1 MX1_removePlace.2.2.2 ∈ lw_tbl ∧ Cond.initialized MX1_removePlace.1.cls ∈ lw_tbl ∧ (MX1_removePlace.1.cls ≠ "java/lang/invoke/MethodHandle" ∧ MX1_removePlace.1.cls ≠ "java/lang/invoke/VarHandle") ∧ (parseMethodDescriptor MX1_removePlace.1.desc).map (fun d => d.parameters.length) = some 1 := ⟨List.mem_of_getElem? (i := 514) (by decide +kernel), List.mem_of_getElem? (i := 91) (by decide +kernel), ⟨by decide +kernel, by decide +kernel⟩, by decide +kernel⟩
theorem ckX2_init : Cond.code MX2_init.1 MX2_init.2.1 MX2_init.2.2.1 MX2_init.2.2.2 ∈ lw_tbl ∧ Cond.initialized MX2_init.1.cls ∈ lw_tbl ∧ (MX2_init.1.cls ≠ "java/lang/invoke/MethodHandle" ∧ MX2_init.1.cls ≠ "java/lang/invoke/VarHandle") ∧ (parseMethodDescriptor MX2_init.1.desc).map (fun d => d.parameters.length) = some 0 := ⟨List.mem_of_getElem? (i := 225) (by decide +kernel), List.mem_of_getElem? (i := 94) (by decide +kernel), ⟨by decide +kernel, by decide +kernel⟩, by decide +kernel⟩
theorem ckX2_readAll : Cond.code MX2_readAll.1 MX2_readAll.2.1 MX2_readAll.2.2.1 MX2_readAll.2.2.2 ∈ lw_tbl ∧ Cond.initialized MX2_readAll.1.cls ∈ lw_tbl ∧ (MX2_readAll.1.cls ≠ "java/lang/invoke/MethodHandle" ∧ MX2_readAll.1.cls ≠ "java/lang/invoke/VarHandle") ∧ (parseMethodDescriptor MX2_readAll.1.desc).map (fun d => d.parameters.length) = some 1 := ⟨List.mem_of_getElem? (i := 448) (by decide +kernel), List.mem_of_getElem? (i := 94) (by decide +kernel), ⟨by decide +kernel, by decide +kernel⟩, by decide +kernel⟩
theorem ckX2_readPlace : Cond.code MX2_readPlace.1 MX2_readPlace.2.1 MX2_readPlace.2.2.1 MX2_readPlace.2.2.2 ∈ lw_tbl ∧ Cond.initialized MX2_readPlace.1.cls ∈ lw_tbl ∧ (MX2_readPlace.1.cls ≠ "java/lang/invoke/MethodHandle" ∧ MX2_readPlace.1.cls ≠ "java/lang/invoke/VarHandle") ∧ (parseMethodDescriptor MX2_readPlace.1.desc).map (fun d => d.parameters.length) = some 2 := ⟨List.mem_of_getElem? (i := 452) (by decide +kernel), List.mem_of_getElem? (i := 94) (by decide +kernel), ⟨by decide +kernel, by decide +kernel⟩, by decide +kernel⟩
theorem ckX3_init : Cond.code MX3_init.1 MX3_init.2.1 MX3_init.2.2.1 MX3_init.2.2.2 ∈ lw_tbl ∧ Cond.initialized MX3_init.1.cls ∈ lw_tbl ∧ (MX3_init.1.cls ≠ "java/lang/invoke/MethodHandle" ∧ MX3_init.1.cls ≠ "java/lang/invoke/VarHandle") ∧ (parseMethodDescriptor MX3_init.1.desc).map (fun d => d.parameters.length) = some 0 := ⟨List.mem_of_getElem? (i := 197) (by decide +kernel), List.mem_of_getElem? (i := 93) (by decide +kernel), ⟨by decide +kernel, by decide +kernel⟩, by decide +kernel⟩
theorem ckX3_run : Cond.code MX3_run.1 MX3_run.2.1 MX3_run.2.2.1 MX3_run.2.2.2 ∈ lw_tbl ∧ Cond.initialized MX3_run.1.cls ∈ lw_tbl ∧ (MX3_run.1.cls ≠ "java/lang/invoke/MethodHandle" ∧ MX3_run.1.cls ≠ "java/lang/invoke/VarHandle") ∧ (parseMethodDescriptor MX3_run.1.desc).map (fun d => d.parameters.length) = some 2 := ⟨List.mem_of_getElem? (i := 278) (by decide +kernel), List.mem_of_getElem? (i := 93) (by decide +kernel), ⟨by decide +kernel, by decide +kernel⟩, by decide +kernel⟩
theorem ckX3_runCommand : Cond.code MX3_runCommand.1 MX3_runCommand.2.1 MX3_runCommand.2.2.1 MX3_runCommand.2.2.2 ∈ lw_tbl ∧ Cond.initialized MX3_runCommand.1.cls ∈ lw_tbl ∧ (MX3_runCommand.1.cls ≠ "java/lang/invoke/MethodHandle" ∧ MX3_runCommand.1.cls ≠ "java/lang/invoke/VarHandle") ∧ (parseMethodDescriptor MX3_runCommand.1.desc).map (fun d => d.parameters.length) = some 1 := ⟨List.mem_of_getElem? (i := 362) (by decide +kernel), List.mem_of_getElem? (i := 93) (by decide +kernel), ⟨by decide +kernel, by decide +kernel⟩, by decide +kernel⟩
theorem ckX3_runSet : Cond.code MX3_runSet.1 MX3_runSet.2.1 MX3_runSet.2.2.1 MX3_runSet.2.2.2 ∈ lw_tbl ∧ Cond.initialized MX3_runSet.1.cls ∈ lw_tbl ∧ (MX3_runSet.1.cls ≠ "java/lang/invoke/MethodHandle" ∧ MX3_runSet.1.cls ≠ "java/lang/invoke/VarHandle") ∧ (parseMethodDescriptor MX3_runSet.1.desc).map (fun d => d.parameters.length) = some 0 := ⟨List.mem_of_getElem? (i := 366) (by decide +kernel), List.mem_of_getElem? (i := 93) (by decide +kernel), ⟨by decide +kernel, by decide +kernel⟩, by decide +kernel⟩
theorem ckX3_runAdd : Cond.code MX3_runAdd.1 MX3_runAdd.2.1 MX3_runAdd.2.2.1 MX3_runAdd.2.2.2 ∈ lw_tbl ∧ Cond.initialized MX3_runAdd.1.cls ∈ lw_tbl ∧ (MX3_runAdd.1.cls ≠ "java/lang/invoke/MethodHandle" ∧ MX3_runAdd.1.cls ≠ "java/lang/invoke/VarHandle") ∧ (parseMethodDescriptor MX3_runAdd.1.desc).map (fun d => d.parameters.length) = some 0 := ⟨List.mem_of_getElem? (i := 394) (by decide +kernel), List.mem_of_getElem? (i := 93) (by decide +kernel), ⟨by decide +kernel, by decide +kernel⟩, by decide +kernel⟩
theorem ckX3_runSwap : Cond.code MX3_runSwap.1 MX3_runSwap.2.1 MX3_runSwap.2.2.1 MX3_runSwap.2.2.2 ∈ lw_tbl ∧ Cond.initialized MX3_runSwap.1.cls ∈ lw_tbl ∧ (MX3_runSwap.1.cls ≠ "java/lang/invoke/MethodHandle" ∧ MX3_runSwap.1.cls ≠ "java/lang/invoke/VarHandle") ∧ (parseMethodDescriptor MX3_runSwap.1.desc).map (fun d => d.parameters.length) = some 0 := ⟨List.mem_of_getElem? (i := 408) (by decide +kernel), List.mem_of_getElem? (i := 93) (by decide +kernel), ⟨by decide +kernel, by decide +kernel⟩, by decide +kernel⟩
theorem ckX3_runFill : Cond.code MX3_runFill.1 MX3_runFill.2.1 MX3_runFill.2.2.1 MX3_runFill.2.2.2 ∈ lw_tbl ∧ Cond.initialized MX3_runFill.1.cls ∈ lw_tbl ∧ (MX3_runFill.1.cls ≠ "java/lang/invoke/MethodHandle" ∧ MX3_runFill.1.cls ≠ "java/lang/invoke/VarHandle") ∧ (parseMethodDescriptor MX3_runFill.1.desc).map (fun d => d.parameters.length) = some 0 := ⟨List.mem_of_getElem? (i := 412) (by decide +kernel), List.mem_of_getElem? (i := 93) (by decide +kernel), ⟨by decide +kernel, by decide +kernel⟩, by decide +kernel⟩
theorem ckX3_runTurn : Cond.code MX3_runTurn.1 MX3_runTurn.2.1 MX3_runTurn.2.2.1 MX3_runTurn.2.2.2 ∈ lw_tbl ∧ Cond.initialized MX3_runTurn.1.cls ∈ lw_tbl ∧ (MX3_runTurn.1.cls ≠ "java/lang/invoke/MethodHandle" ∧ MX3_runTurn.1.cls ≠ "java/lang/invoke/VarHandle") ∧ (parseMethodDescriptor MX3_runTurn.1.desc).map (fun d => d.parameters.length) = some 0 := ⟨List.mem_of_getElem? (i := 416) (by decide +kernel), List.mem_of_getElem? (i := 93) (by decide +kernel), ⟨by decide +kernel, by decide +kernel⟩, by decide +kernel⟩
theorem ckX3_failAt : Cond.code MX3_failAt.1 MX3_failAt.2.1 MX3_failAt.2.2.1 MX3_failAt.2.2.2 ∈ lw_tbl ∧ Cond.initialized MX3_failAt.1.cls ∈ lw_tbl ∧ (MX3_failAt.1.cls ≠ "java/lang/invoke/MethodHandle" ∧ MX3_failAt.1.cls ≠ "java/lang/invoke/VarHandle") ∧ (parseMethodDescriptor MX3_failAt.1.desc).map (fun d => d.parameters.length) = some 1 := ⟨List.mem_of_getElem? (i := 358) (by decide +kernel), List.mem_of_getElem? (i := 93) (by decide +kernel), ⟨by decide +kernel, by decide +kernel⟩, by decide +kernel⟩
theorem ckX3_isDigitNext : Cond.code MX3_isDigitNext.1 MX3_isDigitNext.2.1 MX3_isDigitNext.2.2.1 MX3_isDigitNext.2.2.2 ∈ lw_tbl ∧ Cond.initialized MX3_isDigitNext.1.cls ∈ lw_tbl ∧ (MX3_isDigitNext.1.cls ≠ "java/lang/invoke/MethodHandle" ∧ MX3_isDigitNext.1.cls ≠ "java/lang/invoke/VarHandle") ∧ (parseMethodDescriptor MX3_isDigitNext.1.desc).map (fun d => d.parameters.length) = some 0 := ⟨List.mem_of_getElem? (i := 378) (by decide +kernel), List.mem_of_getElem? (i := 93) (by decide +kernel), ⟨by decide +kernel, by decide +kernel⟩, by decide +kernel⟩
theorem ckX3_isLetterNext : Cond.code MX3_isLetterNext.1 MX3_isLetterNext.2.1 MX3_isLetterNext.2.2.1 MX3_isLetterNext.2.2.2 ∈ lw_tbl ∧ Cond.initialized MX3_isLetterNext.1.cls ∈ lw_tbl ∧ (MX3_isLetterNext.1.cls ≠ "java/lang/invoke/MethodHandle" ∧ MX3_isLetterNext.1.cls ≠ "java/lang/invoke/VarHandle") ∧ (parseMethodDescriptor MX3_isLetterNext.1.desc).map (fun d => d.parameters.length) = some 0 := ⟨List.mem_of_getElem? (i := 293) (by decide +kernel), List.mem_of_getElem? (i := 93) (by decide +kernel), ⟨by decide +kernel, by decide +kernel⟩, by decide +kernel⟩
theorem ckX3_isNext : Cond.code MX3_isNext.1 MX3_isNext.2.1 MX3_isNext.2.2.1 MX3_isNext.2.2.2 ∈ lw_tbl ∧ Cond.initialized MX3_isNext.1.cls ∈ lw_tbl ∧ (MX3_isNext.1.cls ≠ "java/lang/invoke/MethodHandle" ∧ MX3_isNext.1.cls ≠ "java/lang/invoke/VarHandle") ∧ (parseMethodDescriptor MX3_isNext.1.desc).map (fun d => d.parameters.length) = some 1 := ⟨List.mem_of_getElem? (i := 390) (by decide +kernel), List.mem_of_getElem? (i := 93) (by decide +kernel), ⟨by decide +kernel, by decide +kernel⟩, by decide +kernel⟩
theorem ckX3_skipBlanks : Cond.code MX3_skipBlanks.1 MX3_skipBlanks.2.1 MX3_skipBlanks.2.2.1 MX3_skipBlanks.2.2.2 ∈ lw_tbl ∧ Cond.initialized MX3_skipBlanks.1.cls ∈ lw_tbl ∧ (MX3_skipBlanks.1.cls ≠ "java/lang/invoke/MethodHandle" ∧ MX3_skipBlanks.1.cls ≠ "java/lang/invoke/VarHandle") ∧ (parseMethodDescriptor MX3_skipBlanks.1.desc).map (fun d => d.parameters.length) = some 0 := ⟨List.mem_of_getElem? (i := 285) (by decide +kernel), List.mem_of_getElem? (i := 93) (by decide +kernel), ⟨by decide +kernel, by decide +kernel⟩, by decide +kernel⟩
theorem ckX3_takeWord : Cond.code MX3_takeWord.1 MX3_takeWord.2.1 MX3_takeWord.2.2.1 MX3_takeWord.2.2.2 ∈ lw_tbl ∧ Cond.initialized MX3_takeWord.1.cls ∈ lw_tbl ∧ (MX3_takeWord.1.cls ≠ "java/lang/invoke/MethodHandle" ∧ MX3_takeWord.1.cls ≠ "java/lang/invoke/VarHandle") ∧ (parseMethodDescriptor MX3_takeWord.1.desc).map (fun d => d.parameters.length) = some 0 := ⟨List.mem_of_getElem? (i := 289) (by decide +kernel), List.mem_of_getElem? (i := 93) (by decide +kernel), ⟨by decide +kernel, by decide +kernel⟩, by decide +kernel⟩
theorem ckX3_wordAt : Cond.code MX3_wordAt.1 MX3_wordAt.2.1 MX3_wordAt.2.2.1 MX3_wordAt.2.2.2 ∈ lw_tbl ∧ Cond.initialized MX3_wordAt.1.cls ∈ lw_tbl ∧ (MX3_wordAt.1.cls ≠ "java/lang/invoke/MethodHandle" ∧ MX3_wordAt.1.cls ≠ "java/lang/invoke/VarHandle") ∧ (parseMethodDescriptor MX3_wordAt.1.desc).map (fun d => d.parameters.length) = some 1 := ⟨List.mem_of_getElem? (i := 297) (by decide +kernel), List.mem_of_getElem? (i := 93) (by decide +kernel), ⟨by decide +kernel, by decide +kernel⟩, by decide +kernel⟩
theorem ckX3_isSpelled : Cond.code MX3_isSpelled.1 MX3_isSpelled.2.1 MX3_isSpelled.2.2.1 MX3_isSpelled.2.2.2 ∈ lw_tbl ∧ Cond.initialized MX3_isSpelled.1.cls ∈ lw_tbl ∧ (MX3_isSpelled.1.cls ≠ "java/lang/invoke/MethodHandle" ∧ MX3_isSpelled.1.cls ≠ "java/lang/invoke/VarHandle") ∧ (parseMethodDescriptor MX3_isSpelled.1.desc).map (fun d => d.parameters.length) = some 2 := ⟨List.mem_of_getElem? (i := 302) (by decide +kernel), List.mem_of_getElem? (i := 93) (by decide +kernel), ⟨by decide +kernel, by decide +kernel⟩, by decide +kernel⟩
theorem ckX3_takeIndex : Cond.code MX3_takeIndex.1 MX3_takeIndex.2.1 MX3_takeIndex.2.2.1 MX3_takeIndex.2.2.2 ∈ lw_tbl ∧ Cond.initialized MX3_takeIndex.1.cls ∈ lw_tbl ∧ (MX3_takeIndex.1.cls ≠ "java/lang/invoke/MethodHandle" ∧ MX3_takeIndex.1.cls ≠ "java/lang/invoke/VarHandle") ∧ (parseMethodDescriptor MX3_takeIndex.1.desc).map (fun d => d.parameters.length) = some 1 := ⟨List.mem_of_getElem? (i := 370) (by decide +kernel), List.mem_of_getElem? (i := 93) (by decide +kernel), ⟨by decide +kernel, by decide +kernel⟩, by decide +kernel⟩
theorem ckX3_takeNumber : Cond.code MX3_takeNumber.1 MX3_takeNumber.2.1 MX3_takeNumber.2.2.1 MX3_takeNumber.2.2.2 ∈ lw_tbl ∧ Cond.initialized MX3_takeNumber.1.cls ∈ lw_tbl ∧ (MX3_takeNumber.1.cls ≠ "java/lang/invoke/MethodHandle" ∧ MX3_takeNumber.1.cls ≠ "java/lang/invoke/VarHandle") ∧ (parseMethodDescriptor MX3_takeNumber.1.desc).map (fun d => d.parameters.length) = some 0 := ⟨List.mem_of_getElem? (i := 382) (by decide +kernel), List.mem_of_getElem? (i := 93) (by decide +kernel), ⟨by decide +kernel, by decide +kernel⟩, by decide +kernel⟩
theorem ckX3_takeAmount : Cond.code MX3_takeAmount.1 MX3_takeAmount.2.1 MX3_takeAmount.2.2.1 MX3_takeAmount.2.2.2 ∈ lw_tbl ∧ Cond.initialized MX3_takeAmount.1.cls ∈ lw_tbl ∧ (MX3_takeAmount.1.cls ≠ "java/lang/invoke/MethodHandle" ∧ MX3_takeAmount.1.cls ≠ "java/lang/invoke/VarHandle") ∧ (parseMethodDescriptor MX3_takeAmount.1.desc).map (fun d => d.parameters.length) = some 0 := ⟨List.mem_of_getElem? (i := 398) (by decide +kernel), List.mem_of_getElem? (i := 93) (by decide +kernel), ⟨by decide +kernel, by decide +kernel⟩, by decide +kernel⟩
theorem ckX3_takeDigits : Cond.code MX3_takeDigits.1 MX3_takeDigits.2.1 MX3_takeDigits.2.2.1 MX3_takeDigits.2.2.2 ∈ lw_tbl ∧ Cond.initialized MX3_takeDigits.1.cls ∈ lw_tbl ∧ (MX3_takeDigits.1.cls ≠ "java/lang/invoke/MethodHandle" ∧ MX3_takeDigits.1.cls ≠ "java/lang/invoke/VarHandle") ∧ (parseMethodDescriptor MX3_takeDigits.1.desc).map (fun d => d.parameters.length) = some 0 := ⟨List.mem_of_getElem? (i := 374) (by decide +kernel), List.mem_of_getElem? (i := 93) (by decide +kernel), ⟨by decide +kernel, by decide +kernel⟩, by decide +kernel⟩
theorem ckX3_takeSemicolon : Cond.code MX3_takeSemicolon.1 MX3_takeSemicolon.2.1 MX3_takeSemicolon.2.2.1 MX3_takeSemicolon.2.2.2 ∈ lw_tbl ∧ Cond.initialized MX3_takeSemicolon.1.cls ∈ lw_tbl ∧ (MX3_takeSemicolon.1.cls ≠ "java/lang/invoke/MethodHandle" ∧ MX3_takeSemicolon.1.cls ≠ "java/lang/invoke/VarHandle") ∧ (parseMethodDescriptor MX3_takeSemicolon.1.desc).map (fun d => d.parameters.length) = some 0 := ⟨List.mem_of_getElem? (i := 386) (by decide +kernel), List.mem_of_getElem? (i := 93) (by decide +kernel), ⟨by decide +kernel, by decide +kernel⟩, by decide +kernel⟩
theorem ckX4_init : Cond.code MX4_init.1 MX4_init.2.1 MX4_init.2.2.1 MX4_init.2.2.2 ∈ lw_tbl ∧ Cond.initialized MX4_init.1.cls ∈ lw_tbl ∧ (MX4_init.1.cls ≠ "java/lang/invoke/MethodHandle" ∧ MX4_init.1.cls ≠ "java/lang/invoke/VarHandle") ∧ (parseMethodDescriptor MX4_init.1.desc).map (fun d => d.parameters.length) = some 0 := ⟨List.mem_of_getElem? (i := 106) (by decide +kernel), List.mem_of_getElem? (i := 90) (by decide +kernel), ⟨by decide +kernel, by decide +kernel⟩, by decide +kernel⟩
theorem ckX4_type : Cond.code MX4_type.1 MX4_type.2.1 MX4_type.2.2.1 MX4_type.2.2.2 ∈ lw_tbl ∧ Cond.initialized MX4_type.1.cls ∈ lw_tbl ∧ (MX4_type.1.cls ≠ "java/lang/invoke/MethodHandle" ∧ MX4_type.1.cls ≠ "java/lang/invoke/VarHandle") ∧ (parseMethodDescriptor MX4_type.1.desc).map (fun d => d.parameters.length) = some 1 := ⟨List.mem_of_getElem? (i := 263) (by decide +kernel), List.mem_of_getElem? (i := 90) (by decide +kernel), ⟨by decide +kernel, by decide +kernel⟩, by decide +kernel⟩
theorem ckX4_clear : Cond.code MX4_clear.1 MX4_clear.2.1 MX4_clear.2.2.1 MX4_clear.2.2.2 ∈ lw_tbl ∧ Cond.initialized MX4_clear.1.cls ∈ lw_tbl ∧ (MX4_clear.1.cls ≠ "java/lang/invoke/MethodHandle" ∧ MX4_clear.1.cls ≠ "java/lang/invoke/VarHandle") ∧ (parseMethodDescriptor MX4_clear.1.desc).map (fun d => d.parameters.length) = some 0 := ⟨List.mem_of_getElem? (i := 267) (by decide +kernel), List.mem_of_getElem? (i := 90) (by decide +kernel), ⟨by decide +kernel, by decide +kernel⟩, by decide +kernel⟩
theorem ckX4_play : Cond.code MX4_play.1 MX4_play.2.1 MX4_play.2.2.1 MX4_play.2.2.2 ∈ lw_tbl ∧ Cond.initialized MX4_play.1.cls ∈ lw_tbl ∧ (MX4_play.1.cls ≠ "java/lang/invoke/MethodHandle" ∧ MX4_play.1.cls ≠ "java/lang/invoke/VarHandle") ∧ (parseMethodDescriptor MX4_play.1.desc).map (fun d => d.parameters.length) = some 0 := ⟨List.mem_of_getElem? (i := 271) (by decide +kernel), List.mem_of_getElem? (i := 90) (by decide +kernel), ⟨by decide +kernel, by decide +kernel⟩, by decide +kernel⟩
theorem ckX4_raise : Cond.code MX4_raise.1 MX4_raise.2.1 MX4_raise.2.2.1 MX4_raise.2.2.2 ∈ lw_tbl ∧ Cond.initialized MX4_raise.1.cls ∈ lw_tbl ∧ (MX4_raise.1.cls ≠ "java/lang/invoke/MethodHandle" ∧ MX4_raise.1.cls ≠ "java/lang/invoke/VarHandle") ∧ (parseMethodDescriptor MX4_raise.1.desc).map (fun d => d.parameters.length) = some 0 := ⟨List.mem_of_getElem? (i := 436) (by decide +kernel), List.mem_of_getElem? (i := 90) (by decide +kernel), ⟨by decide +kernel, by decide +kernel⟩, by decide +kernel⟩
theorem ckX4_keep : Cond.code MX4_keep.1 MX4_keep.2.1 MX4_keep.2.2.1 MX4_keep.2.2.2 ∈ lw_tbl ∧ Cond.initialized MX4_keep.1.cls ∈ lw_tbl ∧ (MX4_keep.1.cls ≠ "java/lang/invoke/MethodHandle" ∧ MX4_keep.1.cls ≠ "java/lang/invoke/VarHandle") ∧ (parseMethodDescriptor MX4_keep.1.desc).map (fun d => d.parameters.length) = some 0 := ⟨List.mem_of_getElem? (i := 444) (by decide +kernel), List.mem_of_getElem? (i := 90) (by decide +kernel), ⟨by decide +kernel, by decide +kernel⟩, by decide +kernel⟩
theorem ckX4_load : Cond.code MX4_load.1 MX4_load.2.1 MX4_load.2.2.1 MX4_load.2.2.2 ∈ lw_tbl ∧ Cond.initialized MX4_load.1.cls ∈ lw_tbl ∧ (MX4_load.1.cls ≠ "java/lang/invoke/MethodHandle" ∧ MX4_load.1.cls ≠ "java/lang/invoke/VarHandle") ∧ (parseMethodDescriptor MX4_load.1.desc).map (fun d => d.parameters.length) = some 1 := ⟨List.mem_of_getElem? (i := 501) (by decide +kernel), List.mem_of_getElem? (i := 90) (by decide +kernel), ⟨by decide +kernel, by decide +kernel⟩, by decide +kernel⟩
theorem ckX4_drop : Cond.code MX4_drop.1 MX4_drop.2.1 MX4_drop.2.2.1 MX4_drop.2.2.2 ∈ lw_tbl ∧ Cond.initialized MX4_drop.1.cls ∈ lw_tbl ∧ (MX4_drop.1.cls ≠ "java/lang/invoke/MethodHandle" ∧ MX4_drop.1.cls ≠ "java/lang/invoke/VarHandle") ∧ (parseMethodDescriptor MX4_drop.1.desc).map (fun d => d.parameters.length) = some 2 := ⟨List.mem_of_getElem? (i := 506) (by decide +kernel), List.mem_of_getElem? (i := 90) (by decide +kernel), ⟨by decide +kernel, by decide +kernel⟩, by decide +kernel⟩
theorem ckX4_alter : Cond.code MX4_alter.1 MX4_alter.2.1 MX4_alter.2.2.1 MX4_alter.2.2.2 ∈ lw_tbl ∧ Cond.initialized MX4_alter.1.cls ∈ lw_tbl ∧ (MX4_alter.1.cls ≠ "java/lang/invoke/MethodHandle" ∧ MX4_alter.1.cls ≠ "java/lang/invoke/VarHandle") ∧ (parseMethodDescriptor MX4_alter.1.desc).map (fun d => d.parameters.length) = some 3 := ⟨List.mem_of_getElem? (i := 522) (by decide +kernel), List.mem_of_getElem? (i := 90) (by decide +kernel), ⟨by decide +kernel, by decide +kernel⟩, by decide +kernel⟩
theorem ckX4_pack : Cond.code MX4_pack.1 MX4_pack.2.1 MX4_pack.2.2.1 MX4_pack.2.2.2 ∈ lw_tbl ∧ Cond.initialized MX4_pack.1.cls ∈ lw_tbl ∧ (MX4_pack.1.cls ≠ "java/lang/invoke/MethodHandle" ∧ MX4_pack.1.cls ≠ "java/lang/invoke/VarHandle") ∧ (parseMethodDescriptor MX4_pack.1.desc).map (fun d => d.parameters.length) = some 0 := ⟨List.mem_of_getElem? (i := 526) (by decide +kernel), List.mem_of_getElem? (i := 90) (by decide +kernel), ⟨by decide +kernel, by decide +kernel⟩, by decide +kernel⟩
theorem ckX4_set : Cond.code MX4_set.1 MX4_set.2.1 MX4_set.2.2.1 MX4_set.2.2.2 ∈ lw_tbl ∧ Cond.initialized MX4_set.1.cls ∈ lw_tbl ∧ (MX4_set.1.cls ≠ "java/lang/invoke/MethodHandle" ∧ MX4_set.1.cls ≠ "java/lang/invoke/VarHandle") ∧ (parseMethodDescriptor MX4_set.1.desc).map (fun d => d.parameters.length) = some 2 := ⟨List.mem_of_getElem? (i := 542) (by decide +kernel), List.mem_of_getElem? (i := 90) (by decide +kernel), ⟨by decide +kernel, by decide +kernel⟩, by decide +kernel⟩
theorem ckX4_undo : Cond.code MX4_undo.1 MX4_undo.2.1 MX4_undo.2.2.1 MX4_undo.2.2.2 ∈ lw_tbl ∧ Cond.initialized MX4_undo.1.cls ∈ lw_tbl ∧ (MX4_undo.1.cls ≠ "java/lang/invoke/MethodHandle" ∧ MX4_undo.1.cls ≠ "java/lang/invoke/VarHandle") ∧ (parseMethodDescriptor MX4_undo.1.desc).map (fun d => d.parameters.length) = some 0 := ⟨List.mem_of_getElem? (i := 546) (by decide +kernel), List.mem_of_getElem? (i := 90) (by decide +kernel), ⟨by decide +kernel, by decide +kernel⟩, by decide +kernel⟩
theorem ckX4_value : Cond.code MX4_value.1 MX4_value.2.1 MX4_value.2.2.1 MX4_value.2.2.2 ∈ lw_tbl ∧ Cond.initialized MX4_value.1.cls ∈ lw_tbl ∧ (MX4_value.1.cls ≠ "java/lang/invoke/MethodHandle" ∧ MX4_value.1.cls ≠ "java/lang/invoke/VarHandle") ∧ (parseMethodDescriptor MX4_value.1.desc).map (fun d => d.parameters.length) = some 1 := ⟨List.mem_of_getElem? (i := 550) (by decide +kernel), List.mem_of_getElem? (i := 90) (by decide +kernel), ⟨by decide +kernel, by decide +kernel⟩, by decide +kernel⟩
theorem ckX4_kept : Cond.code MX4_kept.1 MX4_kept.2.1 MX4_kept.2.2.1 MX4_kept.2.2.2 ∈ lw_tbl ∧ Cond.initialized MX4_kept.1.cls ∈ lw_tbl ∧ (MX4_kept.1.cls ≠ "java/lang/invoke/MethodHandle" ∧ MX4_kept.1.cls ≠ "java/lang/invoke/VarHandle") ∧ (parseMethodDescriptor MX4_kept.1.desc).map (fun d => d.parameters.length) = some 2 := ⟨List.mem_of_getElem? (i := 554) (by decide +kernel), List.mem_of_getElem? (i := 90) (by decide +kernel), ⟨by decide +kernel, by decide +kernel⟩, by decide +kernel⟩
theorem ckX4_entry : Cond.code MX4_entry.1 MX4_entry.2.1 MX4_entry.2.2.1 MX4_entry.2.2.2 ∈ lw_tbl ∧ Cond.initialized MX4_entry.1.cls ∈ lw_tbl ∧ (MX4_entry.1.cls ≠ "java/lang/invoke/MethodHandle" ∧ MX4_entry.1.cls ≠ "java/lang/invoke/VarHandle") ∧ (parseMethodDescriptor MX4_entry.1.desc).map (fun d => d.parameters.length) = some 3 := ⟨List.mem_of_getElem? (i := 563) (by decide +kernel), List.mem_of_getElem? (i := 90) (by decide +kernel), ⟨by decide +kernel, by decide +kernel⟩, by decide +kernel⟩
theorem ckX4_read : Cond.code MX4_read.1 MX4_read.2.1 MX4_read.2.2.1 MX4_read.2.2.2 ∈ lw_tbl ∧ Cond.initialized MX4_read.1.cls ∈ lw_tbl ∧ (MX4_read.1.cls ≠ "java/lang/invoke/MethodHandle" ∧ MX4_read.1.cls ≠ "java/lang/invoke/VarHandle") ∧ (parseMethodDescriptor MX4_read.1.desc).map (fun d => d.parameters.length) = some 3 := ⟨List.mem_of_getElem? (i := 567) (by decide +kernel), List.mem_of_getElem? (i := 90) (by decide +kernel), ⟨by decide +kernel, by decide +kernel⟩, by decide +kernel⟩
theorem ckX4_cause : Cond.code MX4_cause.1 MX4_cause.2.1 MX4_cause.2.2.1 MX4_cause.2.2.2 ∈ lw_tbl ∧ Cond.initialized MX4_cause.1.cls ∈ lw_tbl ∧ (MX4_cause.1.cls ≠ "java/lang/invoke/MethodHandle" ∧ MX4_cause.1.cls ≠ "java/lang/invoke/VarHandle") ∧ (parseMethodDescriptor MX4_cause.1.desc).map (fun d => d.parameters.length) = some 3 := ⟨List.mem_of_getElem? (i := 571) (by decide +kernel), List.mem_of_getElem? (i := 90) (by decide +kernel), ⟨by decide +kernel, by decide +kernel⟩, by decide +kernel⟩
theorem ckX4_apart : Cond.code MX4_apart.1 MX4_apart.2.1 MX4_apart.2.2.1 MX4_apart.2.2.2 ∈ lw_tbl ∧ Cond.initialized MX4_apart.1.cls ∈ lw_tbl ∧ (MX4_apart.1.cls ≠ "java/lang/invoke/MethodHandle" ∧ MX4_apart.1.cls ≠ "java/lang/invoke/VarHandle") ∧ (parseMethodDescriptor MX4_apart.1.desc).map (fun d => d.parameters.length) = some 2 := ⟨List.mem_of_getElem? (i := 584) (by decide +kernel), List.mem_of_getElem? (i := 90) (by decide +kernel), ⟨by decide +kernel, by decide +kernel⟩, by decide +kernel⟩
theorem ckX4_fork : Cond.code MX4_fork.1 MX4_fork.2.1 MX4_fork.2.2.1 MX4_fork.2.2.2 ∈ lw_tbl ∧ Cond.initialized MX4_fork.1.cls ∈ lw_tbl ∧ (MX4_fork.1.cls ≠ "java/lang/invoke/MethodHandle" ∧ MX4_fork.1.cls ≠ "java/lang/invoke/VarHandle") ∧ (parseMethodDescriptor MX4_fork.1.desc).map (fun d => d.parameters.length) = some 2 := ⟨List.mem_of_getElem? (i := 588) (by decide +kernel), List.mem_of_getElem? (i := 90) (by decide +kernel), ⟨by decide +kernel, by decide +kernel⟩, by decide +kernel⟩
theorem ckX4_nearest : Cond.code MX4_nearest.1 MX4_nearest.2.1 MX4_nearest.2.2.1 MX4_nearest.2.2.2 ∈ lw_tbl ∧ Cond.initialized MX4_nearest.1.cls ∈ lw_tbl ∧ (MX4_nearest.1.cls ≠ "java/lang/invoke/MethodHandle" ∧ MX4_nearest.1.cls ≠ "java/lang/invoke/VarHandle") ∧ (parseMethodDescriptor MX4_nearest.1.desc).map (fun d => d.parameters.length) = some 0 := ⟨List.mem_of_getElem? (i := 592) (by decide +kernel), List.mem_of_getElem? (i := 90) (by decide +kernel), ⟨by decide +kernel, by decide +kernel⟩, by decide +kernel⟩
theorem ckX4_count : Cond.code MX4_count.1 MX4_count.2.1 MX4_count.2.2.1 MX4_count.2.2.2 ∈ lw_tbl ∧ Cond.initialized MX4_count.1.cls ∈ lw_tbl ∧ (MX4_count.1.cls ≠ "java/lang/invoke/MethodHandle" ∧ MX4_count.1.cls ≠ "java/lang/invoke/VarHandle") ∧ (parseMethodDescriptor MX4_count.1.desc).map (fun d => d.parameters.length) = some 1 := ⟨List.mem_of_getElem? (i := 600) (by decide +kernel), List.mem_of_getElem? (i := 90) (by decide +kernel), ⟨by decide +kernel, by decide +kernel⟩, by decide +kernel⟩
theorem ckX4_digest : Cond.code MX4_digest.1 MX4_digest.2.1 MX4_digest.2.2.1 MX4_digest.2.2.2 ∈ lw_tbl ∧ Cond.initialized MX4_digest.1.cls ∈ lw_tbl ∧ (MX4_digest.1.cls ≠ "java/lang/invoke/MethodHandle" ∧ MX4_digest.1.cls ≠ "java/lang/invoke/VarHandle") ∧ (parseMethodDescriptor MX4_digest.1.desc).map (fun d => d.parameters.length) = some 0 := ⟨List.mem_of_getElem? (i := 623) (by decide +kernel), List.mem_of_getElem? (i := 90) (by decide +kernel), ⟨by decide +kernel, by decide +kernel⟩, by decide +kernel⟩
theorem ckX4_remember : Cond.code MX4_remember.1 MX4_remember.2.1 MX4_remember.2.2.1 MX4_remember.2.2.2 ∈ lw_tbl ∧ Cond.initialized MX4_remember.1.cls ∈ lw_tbl ∧ (MX4_remember.1.cls ≠ "java/lang/invoke/MethodHandle" ∧ MX4_remember.1.cls ≠ "java/lang/invoke/VarHandle") ∧ (parseMethodDescriptor MX4_remember.1.desc).map (fun d => d.parameters.length) = some 0 := ⟨List.mem_of_getElem? (i := 420) (by decide +kernel), List.mem_of_getElem? (i := 90) (by decide +kernel), ⟨by decide +kernel, by decide +kernel⟩, by decide +kernel⟩
theorem ckX4_baseForGame : Cond.code MX4_baseForGame.1 MX4_baseForGame.2.1 MX4_baseForGame.2.2.1 MX4_baseForGame.2.2.2 ∈ lw_tbl ∧ Cond.initialized MX4_baseForGame.1.cls ∈ lw_tbl ∧ (MX4_baseForGame.1.cls ≠ "java/lang/invoke/MethodHandle" ∧ MX4_baseForGame.1.cls ≠ "java/lang/invoke/VarHandle") ∧ (parseMethodDescriptor MX4_baseForGame.1.desc).map (fun d => d.parameters.length) = some 0 := ⟨List.mem_of_getElem? (i := 466) (by decide +kernel), List.mem_of_getElem? (i := 90) (by decide +kernel), ⟨by decide +kernel, by decide +kernel⟩, by decide +kernel⟩
theorem ckX4_canBeBase : Cond.code MX4_canBeBase.1 MX4_canBeBase.2.1 MX4_canBeBase.2.2.1 MX4_canBeBase.2.2.2 ∈ lw_tbl ∧ Cond.initialized MX4_canBeBase.1.cls ∈ lw_tbl ∧ (MX4_canBeBase.1.cls ≠ "java/lang/invoke/MethodHandle" ∧ MX4_canBeBase.1.cls ≠ "java/lang/invoke/VarHandle") ∧ (parseMethodDescriptor MX4_canBeBase.1.desc).map (fun d => d.parameters.length) = some 2 := ⟨List.mem_of_getElem? (i := 471) (by decide +kernel), List.mem_of_getElem? (i := 90) (by decide +kernel), ⟨by decide +kernel, by decide +kernel⟩, by decide +kernel⟩
theorem ckX4_mendFollowers : Cond.code MX4_mendFollowers.1 MX4_mendFollowers.2.1 MX4_mendFollowers.2.2.1 MX4_mendFollowers.2.2.2 ∈ lw_tbl ∧ Cond.initialized MX4_mendFollowers.1.cls ∈ lw_tbl ∧ (MX4_mendFollowers.1.cls ≠ "java/lang/invoke/MethodHandle" ∧ MX4_mendFollowers.1.cls ≠ "java/lang/invoke/VarHandle") ∧ (parseMethodDescriptor MX4_mendFollowers.1.desc).map (fun d => d.parameters.length) = some 1 := ⟨List.mem_of_getElem? (i := 510) (by decide +kernel), List.mem_of_getElem? (i := 90) (by decide +kernel), ⟨by decide +kernel, by decide +kernel⟩, by decide +kernel⟩
theorem ckX4_packPlace : Cond.code MX4_packPlace.1 MX4_packPlace.2.1 MX4_packPlace.2.2.1 MX4_packPlace.2.2.2 ∈ lw_tbl ∧ Cond.initialized MX4_packPlace.1.cls ∈ lw_tbl ∧ (MX4_packPlace.1.cls ≠ "java/lang/invoke/MethodHandle" ∧ MX4_packPlace.1.cls ≠ "java/lang/invoke/VarHandle") ∧ (parseMethodDescriptor MX4_packPlace.1.desc).map (fun d => d.parameters.length) = some 1 := ⟨List.mem_of_getElem? (i := 538) (by decide +kernel), List.mem_of_getElem? (i := 90) (by decide +kernel), ⟨by decide +kernel, by decide +kernel⟩, by decide +kernel⟩
theorem ckX4_propertyOf : Cond.code MX4_propertyOf.1 MX4_propertyOf.2.1 MX4_propertyOf.2.2.1 MX4_propertyOf.2.2.2 ∈ lw_tbl ∧ Cond.initialized MX4_propertyOf.1.cls ∈ lw_tbl ∧ (MX4_propertyOf.1.cls ≠ "java/lang/invoke/MethodHandle" ∧ MX4_propertyOf.1.cls ≠ "java/lang/invoke/VarHandle") ∧ (parseMethodDescriptor MX4_propertyOf.1.desc).map (fun d => d.parameters.length) = some 2 := ⟨List.mem_of_getElem? (i := 558) (by decide +kernel), List.mem_of_getElem? (i := 90) (by decide +kernel), ⟨by decide +kernel, by decide +kernel⟩, by decide +kernel⟩
theorem ckX4_tally : Cond.code MX4_tally.1 MX4_tally.2.1 MX4_tally.2.2.1 MX4_tally.2.2.2 ∈ lw_tbl ∧ Cond.initialized MX4_tally.1.cls ∈ lw_tbl ∧ (MX4_tally.1.cls ≠ "java/lang/invoke/MethodHandle" ∧ MX4_tally.1.cls ≠ "java/lang/invoke/VarHandle") ∧ (parseMethodDescriptor MX4_tally.1.desc).map (fun d => d.parameters.length) = some 1 := ⟨List.mem_of_getElem? (i := 604) (by decide +kernel), List.mem_of_getElem? (i := 90) (by decide +kernel), ⟨by decide +kernel, by decide +kernel⟩, by decide +kernel⟩
theorem ckX4_unreadable : Cond.code MX4_unreadable.1 MX4_unreadable.2.1 MX4_unreadable.2.2.1 MX4_unreadable.2.2.2 ∈ lw_tbl ∧ Cond.initialized MX4_unreadable.1.cls ∈ lw_tbl ∧ (MX4_unreadable.1.cls ≠ "java/lang/invoke/MethodHandle" ∧ MX4_unreadable.1.cls ≠ "java/lang/invoke/VarHandle") ∧ (parseMethodDescriptor MX4_unreadable.1.desc).map (fun d => d.parameters.length) = some 0 := ⟨List.mem_of_getElem? (i := 613) (by decide +kernel), List.mem_of_getElem? (i := 90) (by decide +kernel), ⟨by decide +kernel, by decide +kernel⟩, by decide +kernel⟩
theorem ckX4_reasonOf : Cond.code MX4_reasonOf.1 MX4_reasonOf.2.1 MX4_reasonOf.2.2.1 MX4_reasonOf.2.2.2 ∈ lw_tbl ∧ Cond.initialized MX4_reasonOf.1.cls ∈ lw_tbl ∧ (MX4_reasonOf.1.cls ≠ "java/lang/invoke/MethodHandle" ∧ MX4_reasonOf.1.cls ≠ "java/lang/invoke/VarHandle") ∧ (parseMethodDescriptor MX4_reasonOf.1.desc).map (fun d => d.parameters.length) = some 1 := ⟨List.mem_of_getElem? (i := 579) (by decide +kernel), List.mem_of_getElem? (i := 90) (by decide +kernel), ⟨by decide +kernel, by decide +kernel⟩, by decide +kernel⟩
theorem ckX4_causeOf : Cond.code MX4_causeOf.1 MX4_causeOf.2.1 MX4_causeOf.2.2.1 MX4_causeOf.2.2.2 ∈ lw_tbl ∧ Cond.initialized MX4_causeOf.1.cls ∈ lw_tbl ∧ (MX4_causeOf.1.cls ≠ "java/lang/invoke/MethodHandle" ∧ MX4_causeOf.1.cls ≠ "java/lang/invoke/VarHandle") ∧ (parseMethodDescriptor MX4_causeOf.1.desc).map (fun d => d.parameters.length) = some 3 := ⟨List.mem_of_getElem? (i := 575) (by decide +kernel), List.mem_of_getElem? (i := 90) (by decide +kernel), ⟨by decide +kernel, by decide +kernel⟩, by decide +kernel⟩
theorem ckX4_nearestToGame : Cond.code MX4_nearestToGame.1 MX4_nearestToGame.2.1 MX4_nearestToGame.2.2.1 MX4_nearestToGame.2.2.2 ∈ lw_tbl ∧ Cond.initialized MX4_nearestToGame.1.cls ∈ lw_tbl ∧ (MX4_nearestToGame.1.cls ≠ "java/lang/invoke/MethodHandle" ∧ MX4_nearestToGame.1.cls ≠ "java/lang/invoke/VarHandle") ∧ (parseMethodDescriptor MX4_nearestToGame.1.desc).map (fun d => d.parameters.length) = some 0 := ⟨List.mem_of_getElem? (i := 596) (by decide +kernel), List.mem_of_getElem? (i := 90) (by decide +kernel), ⟨by decide +kernel, by decide +kernel⟩, by decide +kernel⟩
theorem ckX4_addPlace : Cond.code MX4_addPlace.1 MX4_addPlace.2.1 MX4_addPlace.2.2.1 MX4_addPlace.2.2.2 ∈ lw_tbl ∧ Cond.initialized MX4_addPlace.1.cls ∈ lw_tbl ∧ (MX4_addPlace.1.cls ≠ "java/lang/invoke/MethodHandle" ∧ MX4_addPlace.1.cls ≠ "java/lang/invoke/VarHandle") ∧ (parseMethodDescriptor MX4_addPlace.1.desc).map (fun d => d.parameters.length) = some 2 := ⟨List.mem_of_getElem? (i := 629) (by decide +kernel), List.mem_of_getElem? (i := 90) (by decide +kernel), ⟨by decide +kernel, by decide +kernel⟩, by decide +kernel⟩
theorem ckX4_distance : Cond.code MX4_distance.1 MX4_distance.2.1 MX4_distance.2.2.1 MX4_distance.2.2.2 ∈ lw_tbl ∧ Cond.initialized MX4_distance.1.cls ∈ lw_tbl ∧ (MX4_distance.1.cls ≠ "java/lang/invoke/MethodHandle" ∧ MX4_distance.1.cls ≠ "java/lang/invoke/VarHandle") ∧ (parseMethodDescriptor MX4_distance.1.desc).map (fun d => d.parameters.length) = some 3 := ⟨List.mem_of_getElem? (i := 484) (by decide +kernel), List.mem_of_getElem? (i := 90) (by decide +kernel), ⟨by decide +kernel, by decide +kernel⟩, by decide +kernel⟩
theorem ckX4_raiseRead : Cond.code MX4_raiseRead.1 MX4_raiseRead.2.1 MX4_raiseRead.2.2.1 MX4_raiseRead.2.2.2 ∈ lw_tbl ∧ Cond.initialized MX4_raiseRead.1.cls ∈ lw_tbl ∧ (MX4_raiseRead.1.cls ≠ "java/lang/invoke/MethodHandle" ∧ MX4_raiseRead.1.cls ≠ "java/lang/invoke/VarHandle") ∧ (parseMethodDescriptor MX4_raiseRead.1.desc).map (fun d => d.parameters.length) = some 3 := ⟨List.mem_of_getElem? (i := 488) (by decide +kernel), List.mem_of_getElem? (i := 90) (by decide +kernel), ⟨by decide +kernel, by decide +kernel⟩, by decide +kernel⟩
theorem ckX4_sizeOf : Cond.code MX4_sizeOf.1 MX4_sizeOf.2.1 MX4_sizeOf.2.2.1 MX4_sizeOf.2.2.2 ∈ lw_tbl ∧ Cond.initialized MX4_sizeOf.1.cls ∈ lw_tbl ∧ (MX4_sizeOf.1.cls ≠ "java/lang/invoke/MethodHandle" ∧ MX4_sizeOf.1.cls ≠ "java/lang/invoke/VarHandle") ∧ (parseMethodDescriptor MX4_sizeOf.1.desc).map (fun d => d.parameters.length) = some 1 := ⟨List.mem_of_getElem? (i := 274) (by decide +kernel), List.mem_of_getElem? (i := 90) (by decide +kernel), ⟨by decide +kernel, by decide +kernel⟩, by decide +kernel⟩
theorem ckX4_sumOf : Cond.code MX4_sumOf.1 MX4_sumOf.2.1 MX4_sumOf.2.2.1 MX4_sumOf.2.2.2 ∈ lw_tbl ∧ Cond.initialized MX4_sumOf.1.cls ∈ lw_tbl ∧ (MX4_sumOf.1.cls ≠ "java/lang/invoke/MethodHandle" ∧ MX4_sumOf.1.cls ≠ "java/lang/invoke/VarHandle") ∧ (parseMethodDescriptor MX4_sumOf.1.desc).map (fun d => d.parameters.length) = some 2 := ⟨List.mem_of_getElem? (i := 461) (by decide +kernel), List.mem_of_getElem? (i := 90) (by decide +kernel), ⟨by decide +kernel, by decide +kernel⟩, by decide +kernel⟩
theorem ckX4_raiseValues : Cond.code MX4_raiseValues.1 MX4_raiseValues.2.1 MX4_raiseValues.2.2.1 MX4_raiseValues.2.2.2 ∈ lw_tbl ∧ Cond.initialized MX4_raiseValues.1.cls ∈ lw_tbl ∧ (MX4_raiseValues.1.cls ≠ "java/lang/invoke/MethodHandle" ∧ MX4_raiseValues.1.cls ≠ "java/lang/invoke/VarHandle") ∧ (parseMethodDescriptor MX4_raiseValues.1.desc).map (fun d => d.parameters.length) = some 3 := ⟨List.mem_of_getElem? (i := 439) (by decide +kernel), List.mem_of_getElem? (i := 90) (by decide +kernel), ⟨by decide +kernel, by decide +kernel⟩, by decide +kernel⟩
theorem ckX5_init : Cond.code MX5_init.1 MX5_init.2.1 MX5_init.2.2.1 MX5_init.2.2.2 ∈ lw_tbl ∧ Cond.initialized MX5_init.1.cls ∈ lw_tbl ∧ (MX5_init.1.cls ≠ "java/lang/invoke/MethodHandle" ∧ MX5_init.1.cls ≠ "java/lang/invoke/VarHandle") ∧ (parseMethodDescriptor MX5_init.1.desc).map (fun d => d.parameters.length) = some 0 := ⟨List.mem_of_getElem? (i := 634) (by decide +kernel), List.mem_of_getElem? (i := 95) (by decide +kernel), ⟨by decide +kernel, by decide +kernel⟩, by decide +kernel⟩
theorem ckX5_in : Cond.code MX5_in.1 MX5_in.2.1 MX5_in.2.2.1 MX5_in.2.2.2 ∈ lw_tbl ∧ Cond.initialized MX5_in.1.cls ∈ lw_tbl ∧ (MX5_in.1.cls ≠ "java/lang/invoke/MethodHandle" ∧ MX5_in.1.cls ≠ "java/lang/invoke/VarHandle") ∧ (parseMethodDescriptor MX5_in.1.desc).map (fun d => d.parameters.length) = some 3 := ⟨List.mem_of_getElem? (i := 699) (by decide +kernel), List.mem_of_getElem? (i := 95) (by decide +kernel), ⟨by decide +kernel, by decide +kernel⟩, by decide +kernel⟩
theorem ckX5_valuesOf : Cond.code MX5_valuesOf.1 MX5_valuesOf.2.1 MX5_valuesOf.2.2.1 MX5_valuesOf.2.2.2 ∈ lw_tbl ∧ Cond.initialized MX5_valuesOf.1.cls ∈ lw_tbl ∧ (MX5_valuesOf.1.cls ≠ "java/lang/invoke/MethodHandle" ∧ MX5_valuesOf.1.cls ≠ "java/lang/invoke/VarHandle") ∧ (parseMethodDescriptor MX5_valuesOf.1.desc).map (fun d => d.parameters.length) = some 1 := ⟨List.mem_of_getElem? (i := 743) (by decide +kernel), List.mem_of_getElem? (i := 95) (by decide +kernel), ⟨by decide +kernel, by decide +kernel⟩, by decide +kernel⟩
theorem ckX5_of : Cond.code MX5_of.1 MX5_of.2.1 MX5_of.2.2.1 MX5_of.2.2.2 ∈ lw_tbl ∧ Cond.initialized MX5_of.1.cls ∈ lw_tbl ∧ (MX5_of.1.cls ≠ "java/lang/invoke/MethodHandle" ∧ MX5_of.1.cls ≠ "java/lang/invoke/VarHandle") ∧ (parseMethodDescriptor MX5_of.1.desc).map (fun d => d.parameters.length) = some 2 := ⟨List.mem_of_getElem? (i := 815) (by decide +kernel), List.mem_of_getElem? (i := 95) (by decide +kernel), ⟨by decide +kernel, by decide +kernel⟩, by decide +kernel⟩
theorem ckX5_put : Cond.code MX5_put.1 MX5_put.2.1 MX5_put.2.2.1 MX5_put.2.2.2 ∈ lw_tbl ∧ Cond.initialized MX5_put.1.cls ∈ lw_tbl ∧ (MX5_put.1.cls ≠ "java/lang/invoke/MethodHandle" ∧ MX5_put.1.cls ≠ "java/lang/invoke/VarHandle") ∧ (parseMethodDescriptor MX5_put.1.desc).map (fun d => d.parameters.length) = some 3 := ⟨List.mem_of_getElem? (i := 831) (by decide +kernel), List.mem_of_getElem? (i := 95) (by decide +kernel), ⟨by decide +kernel, by decide +kernel⟩, by decide +kernel⟩
theorem ckX5_isWhole : Cond.code MX5_isWhole.1 MX5_isWhole.2.1 MX5_isWhole.2.2.1 MX5_isWhole.2.2.2 ∈ lw_tbl ∧ Cond.initialized MX5_isWhole.1.cls ∈ lw_tbl ∧ (MX5_isWhole.1.cls ≠ "java/lang/invoke/MethodHandle" ∧ MX5_isWhole.1.cls ≠ "java/lang/invoke/VarHandle") ∧ (parseMethodDescriptor MX5_isWhole.1.desc).map (fun d => d.parameters.length) = some 1 := ⟨List.mem_of_getElem? (i := 819) (by decide +kernel), List.mem_of_getElem? (i := 95) (by decide +kernel), ⟨by decide +kernel, by decide +kernel⟩, by decide +kernel⟩
theorem ckX5_keeps : Cond.code MX5_keeps.1 MX5_keeps.2.1 MX5_keeps.2.2.1 MX5_keeps.2.2.2 ∈ lw_tbl ∧ Cond.initialized MX5_keeps.1.cls ∈ lw_tbl ∧ (MX5_keeps.1.cls ≠ "java/lang/invoke/MethodHandle" ∧ MX5_keeps.1.cls ≠ "java/lang/invoke/VarHandle") ∧ (parseMethodDescriptor MX5_keeps.1.desc).map (fun d => d.parameters.length) = some 0 := ⟨List.mem_of_getElem? (i := 759) (by decide +kernel), List.mem_of_getElem? (i := 95) (by decide +kernel), ⟨by decide +kernel, by decide +kernel⟩, by decide +kernel⟩
theorem ckX5_undo : Cond.code MX5_undo.1 MX5_undo.2.1 MX5_undo.2.2.1 MX5_undo.2.2.2 ∈ lw_tbl ∧ Cond.initialized MX5_undo.1.cls ∈ lw_tbl ∧ (MX5_undo.1.cls ≠ "java/lang/invoke/MethodHandle" ∧ MX5_undo.1.cls ≠ "java/lang/invoke/VarHandle") ∧ (parseMethodDescriptor MX5_undo.1.desc).map (fun d => d.parameters.length) = some 0 := ⟨List.mem_of_getElem? (i := 692) (by decide +kernel), List.mem_of_getElem? (i := 95) (by decide +kernel), ⟨by decide +kernel, by decide +kernel⟩, by decide +kernel⟩
theorem ckX5_slotOf : Cond.code MX5_slotOf.1 MX5_slotOf.2.1 MX5_slotOf.2.2.1 MX5_slotOf.2.2.2 ∈ lw_tbl ∧ Cond.initialized MX5_slotOf.1.cls ∈ lw_tbl ∧ (MX5_slotOf.1.cls ≠ "java/lang/invoke/MethodHandle" ∧ MX5_slotOf.1.cls ≠ "java/lang/invoke/VarHandle") ∧ (parseMethodDescriptor MX5_slotOf.1.desc).map (fun d => d.parameters.length) = some 1 := ⟨List.mem_of_getElem? (i := 811) (by decide +kernel), List.mem_of_getElem? (i := 95) (by decide +kernel), ⟨by decide +kernel, by decide +kernel⟩, by decide +kernel⟩
theorem ckX5_raises : Cond.code MX5_raises.1 MX5_raises.2.1 MX5_raises.2.2.1 MX5_raises.2.2.2 ∈ lw_tbl ∧ Cond.initialized MX5_raises.1.cls ∈ lw_tbl ∧ (MX5_raises.1.cls ≠ "java/lang/invoke/MethodHandle" ∧ MX5_raises.1.cls ≠ "java/lang/invoke/VarHandle") ∧ (parseMethodDescriptor MX5_raises.1.desc).map (fun d => d.parameters.length) = some 0 := ⟨List.mem_of_getElem? (i := 779) (by decide +kernel), List.mem_of_getElem? (i := 95) (by decide +kernel), ⟨by decide +kernel, by decide +kernel⟩, by decide +kernel⟩
theorem ckX5_raisesTo : Cond.code MX5_raisesTo.1 MX5_raisesTo.2.1 MX5_raisesTo.2.2.1 MX5_raisesTo.2.2.2 ∈ lw_tbl ∧ Cond.initialized MX5_raisesTo.1.cls ∈ lw_tbl ∧ (MX5_raisesTo.1.cls ≠ "java/lang/invoke/MethodHandle" ∧ MX5_raisesTo.1.cls ≠ "java/lang/invoke/VarHandle") ∧ (parseMethodDescriptor MX5_raisesTo.1.desc).map (fun d => d.parameters.length) = some 1 := ⟨List.mem_of_getElem? (i := 823) (by decide +kernel), List.mem_of_getElem? (i := 95) (by decide +kernel), ⟨by decide +kernel, by decide +kernel⟩, by decide +kernel⟩
theorem ckX5_sumNow : Cond.code MX5_sumNow.1 MX5_sumNow.2.1 MX5_sumNow.2.2.1 MX5_sumNow.2.2.2 ∈ lw_tbl ∧ Cond.initialized MX5_sumNow.1.cls ∈ lw_tbl ∧ (MX5_sumNow.1.cls ≠ "java/lang/invoke/MethodHandle" ∧ MX5_sumNow.1.cls ≠ "java/lang/invoke/VarHandle") ∧ (parseMethodDescriptor MX5_sumNow.1.desc).map (fun d => d.parameters.length) = some 0 := ⟨List.mem_of_getElem? (i := 791) (by decide +kernel), List.mem_of_getElem? (i := 95) (by decide +kernel), ⟨by decide +kernel, by decide +kernel⟩, by decide +kernel⟩
theorem ckX5_takesGame : Cond.code MX5_takesGame.1 MX5_takesGame.2.1 MX5_takesGame.2.2.1 MX5_takesGame.2.2.2 ∈ lw_tbl ∧ Cond.initialized MX5_takesGame.1.cls ∈ lw_tbl ∧ (MX5_takesGame.1.cls ≠ "java/lang/invoke/MethodHandle" ∧ MX5_takesGame.1.cls ≠ "java/lang/invoke/VarHandle") ∧ (parseMethodDescriptor MX5_takesGame.1.desc).map (fun d => d.parameters.length) = some 0 := ⟨List.mem_of_getElem? (i := 775) (by decide +kernel), List.mem_of_getElem? (i := 95) (by decide +kernel), ⟨by decide +kernel, by decide +kernel⟩, by decide +kernel⟩
theorem ckX5_givesGame : Cond.code MX5_givesGame.1 MX5_givesGame.2.1 MX5_givesGame.2.2.1 MX5_givesGame.2.2.2 ∈ lw_tbl ∧ Cond.initialized MX5_givesGame.1.cls ∈ lw_tbl ∧ (MX5_givesGame.1.cls ≠ "java/lang/invoke/MethodHandle" ∧ MX5_givesGame.1.cls ≠ "java/lang/invoke/VarHandle") ∧ (parseMethodDescriptor MX5_givesGame.1.desc).map (fun d => d.parameters.length) = some 0 := ⟨List.mem_of_getElem? (i := 783) (by decide +kernel), List.mem_of_getElem? (i := 95) (by decide +kernel), ⟨by decide +kernel, by decide +kernel⟩, by decide +kernel⟩
theorem ckX5_climbs : Cond.code MX5_climbs.1 MX5_climbs.2.1 MX5_climbs.2.2.1 MX5_climbs.2.2.2 ∈ lw_tbl ∧ Cond.initialized MX5_climbs.1.cls ∈ lw_tbl ∧ (MX5_climbs.1.cls ≠ "java/lang/invoke/MethodHandle" ∧ MX5_climbs.1.cls ≠ "java/lang/invoke/VarHandle") ∧ (parseMethodDescriptor MX5_climbs.1.desc).map (fun d => d.parameters.length) = some 1 := ⟨List.mem_of_getElem? (i := 807) (by decide +kernel), List.mem_of_getElem? (i := 95) (by decide +kernel), ⟨by decide +kernel, by decide +kernel⟩, by decide +kernel⟩
theorem ckX5_reads : Cond.code MX5_reads.1 MX5_reads.2.1 MX5_reads.2.2.1 MX5_reads.2.2.2 ∈ lw_tbl ∧ Cond.initialized MX5_reads.1.cls ∈ lw_tbl ∧ (MX5_reads.1.cls ≠ "java/lang/invoke/MethodHandle" ∧ MX5_reads.1.cls ≠ "java/lang/invoke/VarHandle") ∧ (parseMethodDescriptor MX5_reads.1.desc).map (fun d => d.parameters.length) = some 1 := ⟨List.mem_of_getElem? (i := 803) (by decide +kernel), List.mem_of_getElem? (i := 95) (by decide +kernel), ⟨by decide +kernel, by decide +kernel⟩, by decide +kernel⟩
theorem ckX5_linksOf : Cond.code MX5_linksOf.1 MX5_linksOf.2.1 MX5_linksOf.2.2.1 MX5_linksOf.2.2.2 ∈ lw_tbl ∧ Cond.initialized MX5_linksOf.1.cls ∈ lw_tbl ∧ (MX5_linksOf.1.cls ≠ "java/lang/invoke/MethodHandle" ∧ MX5_linksOf.1.cls ≠ "java/lang/invoke/VarHandle") ∧ (parseMethodDescriptor MX5_linksOf.1.desc).map (fun d => d.parameters.length) = some 1 := ⟨List.mem_of_getElem? (i := 875) (by decide +kernel), List.mem_of_getElem? (i := 95) (by decide +kernel), ⟨by decide +kernel, by decide +kernel⟩, by decide +kernel⟩
theorem ckX5_setsAside : Cond.code MX5_setsAside.1 MX5_setsAside.2.1 MX5_setsAside.2.2.1 MX5_setsAside.2.2.2 ∈ lw_tbl ∧ Cond.initialized MX5_setsAside.1.cls ∈ lw_tbl ∧ (MX5_setsAside.1.cls ≠ "java/lang/invoke/MethodHandle" ∧ MX5_setsAside.1.cls ≠ "java/lang/invoke/VarHandle") ∧ (parseMethodDescriptor MX5_setsAside.1.desc).map (fun d => d.parameters.length) = some 0 := ⟨List.mem_of_getElem? (i := 799) (by decide +kernel), List.mem_of_getElem? (i := 95) (by decide +kernel), ⟨by decide +kernel, by decide +kernel⟩, by decide +kernel⟩
theorem ckX5_differences : Cond.code MX5_differences.1 MX5_differences.2.1 MX5_differences.2.2.1 MX5_differences.2.2.2 ∈ lw_tbl ∧ Cond.initialized MX5_differences.1.cls ∈ lw_tbl ∧ (MX5_differences.1.cls ≠ "java/lang/invoke/MethodHandle" ∧ MX5_differences.1.cls ≠ "java/lang/invoke/VarHandle") ∧ (parseMethodDescriptor MX5_differences.1.desc).map (fun d => d.parameters.length) = some 1 := ⟨List.mem_of_getElem? (i := 827) (by decide +kernel), List.mem_of_getElem? (i := 95) (by decide +kernel), ⟨by decide +kernel, by decide +kernel⟩, by decide +kernel⟩
theorem ckX5_writesWhole : Cond.code MX5_writesWhole.1 MX5_writesWhole.2.1 MX5_writesWhole.2.2.1 MX5_writesWhole.2.2.2 ∈ lw_tbl ∧ Cond.initialized MX5_writesWhole.1.cls ∈ lw_tbl ∧ (MX5_writesWhole.1.cls ≠ "java/lang/invoke/MethodHandle" ∧ MX5_writesWhole.1.cls ≠ "java/lang/invoke/VarHandle") ∧ (parseMethodDescriptor MX5_writesWhole.1.desc).map (fun d => d.parameters.length) = some 1 := ⟨List.mem_of_getElem? (i := 839) (by decide +kernel), List.mem_of_getElem? (i := 95) (by decide +kernel), ⟨by decide +kernel, by decide +kernel⟩, by decide +kernel⟩
theorem ckX5_writesDifference : Cond.code MX5_writesDifference.1 MX5_writesDifference.2.1 MX5_writesDifference.2.2.1 MX5_writesDifference.2.2.2 ∈ lw_tbl ∧ Cond.initialized MX5_writesDifference.1.cls ∈ lw_tbl ∧ (MX5_writesDifference.1.cls ≠ "java/lang/invoke/MethodHandle" ∧ MX5_writesDifference.1.cls ≠ "java/lang/invoke/VarHandle") ∧ (parseMethodDescriptor MX5_writesDifference.1.desc).map (fun d => d.parameters.length) = some 2 := ⟨List.mem_of_getElem? (i := 835) (by decide +kernel), List.mem_of_getElem? (i := 95) (by decide +kernel), ⟨by decide +kernel, by decide +kernel⟩, by decide +kernel⟩
theorem ckX5_type : Cond.code MX5_type.1 MX5_type.2.1 MX5_type.2.2.1 MX5_type.2.2.2 ∈ lw_tbl ∧ Cond.initialized MX5_type.1.cls ∈ lw_tbl ∧ (MX5_type.1.cls ≠ "java/lang/invoke/MethodHandle" ∧ MX5_type.1.cls ≠ "java/lang/invoke/VarHandle") ∧ (parseMethodDescriptor MX5_type.1.desc).map (fun d => d.parameters.length) = some 1 := ⟨List.mem_of_getElem? (i := 696) (by decide +kernel), List.mem_of_getElem? (i := 95) (by decide +kernel), ⟨by decide +kernel, by decide +kernel⟩, by decide +kernel⟩
theorem ckX5_clear : Cond.code MX5_clear.1 MX5_clear.2.1 MX5_clear.2.2.1 MX5_clear.2.2.2 ∈ lw_tbl ∧ Cond.initialized MX5_clear.1.cls ∈ lw_tbl ∧ (MX5_clear.1.cls ≠ "java/lang/invoke/MethodHandle" ∧ MX5_clear.1.cls ≠ "java/lang/invoke/VarHandle") ∧ (parseMethodDescriptor MX5_clear.1.desc).map (fun d => d.parameters.length) = some 0 := ⟨List.mem_of_getElem? (i := 703) (by decide +kernel), List.mem_of_getElem? (i := 95) (by decide +kernel), ⟨by decide +kernel, by decide +kernel⟩, by decide +kernel⟩
theorem ckX5_next : Cond.code MX5_next.1 MX5_next.2.1 MX5_next.2.2.1 MX5_next.2.2.2 ∈ lw_tbl ∧ Cond.initialized MX5_next.1.cls ∈ lw_tbl ∧ (MX5_next.1.cls ≠ "java/lang/invoke/MethodHandle" ∧ MX5_next.1.cls ≠ "java/lang/invoke/VarHandle") ∧ (parseMethodDescriptor MX5_next.1.desc).map (fun d => d.parameters.length) = some 0 := ⟨List.mem_of_getElem? (i := 719) (by decide +kernel), List.mem_of_getElem? (i := 95) (by decide +kernel), ⟨by decide +kernel, by decide +kernel⟩, by decide +kernel⟩
theorem ckX5_isDigit : Cond.code MX5_isDigit.1 MX5_isDigit.2.1 MX5_isDigit.2.2.1 MX5_isDigit.2.2.2 ∈ lw_tbl ∧ Cond.initialized MX5_isDigit.1.cls ∈ lw_tbl ∧ (MX5_isDigit.1.cls ≠ "java/lang/invoke/MethodHandle" ∧ MX5_isDigit.1.cls ≠ "java/lang/invoke/VarHandle") ∧ (parseMethodDescriptor MX5_isDigit.1.desc).map (fun d => d.parameters.length) = some 0 := ⟨List.mem_of_getElem? (i := 751) (by decide +kernel), List.mem_of_getElem? (i := 95) (by decide +kernel), ⟨by decide +kernel, by decide +kernel⟩, by decide +kernel⟩
theorem ckX5_skips : Cond.code MX5_skips.1 MX5_skips.2.1 MX5_skips.2.2.1 MX5_skips.2.2.2 ∈ lw_tbl ∧ Cond.initialized MX5_skips.1.cls ∈ lw_tbl ∧ (MX5_skips.1.cls ≠ "java/lang/invoke/MethodHandle" ∧ MX5_skips.1.cls ≠ "java/lang/invoke/VarHandle") ∧ (parseMethodDescriptor MX5_skips.1.desc).map (fun d => d.parameters.length) = some 0 := ⟨List.mem_of_getElem? (i := 715) (by decide +kernel), List.mem_of_getElem? (i := 95) (by decide +kernel), ⟨by decide +kernel, by decide +kernel⟩, by decide +kernel⟩
theorem ckX5_fails : Cond.code MX5_fails.1 MX5_fails.2.1 MX5_fails.2.2.1 MX5_fails.2.2.2 ∈ lw_tbl ∧ Cond.initialized MX5_fails.1.cls ∈ lw_tbl ∧ (MX5_fails.1.cls ≠ "java/lang/invoke/MethodHandle" ∧ MX5_fails.1.cls ≠ "java/lang/invoke/VarHandle") ∧ (parseMethodDescriptor MX5_fails.1.desc).map (fun d => d.parameters.length) = some 1 := ⟨List.mem_of_getElem? (i := 740) (by decide +kernel), List.mem_of_getElem? (i := 95) (by decide +kernel), ⟨by decide +kernel, by decide +kernel⟩, by decide +kernel⟩
theorem ckX5_number : Cond.code MX5_number.1 MX5_number.2.1 MX5_number.2.2.1 MX5_number.2.2.2 ∈ lw_tbl ∧ Cond.initialized MX5_number.1.cls ∈ lw_tbl ∧ (MX5_number.1.cls ≠ "java/lang/invoke/MethodHandle" ∧ MX5_number.1.cls ≠ "java/lang/invoke/VarHandle") ∧ (parseMethodDescriptor MX5_number.1.desc).map (fun d => d.parameters.length) = some 2 := ⟨List.mem_of_getElem? (i := 747) (by decide +kernel), List.mem_of_getElem? (i := 95) (by decide +kernel), ⟨by decide +kernel, by decide +kernel⟩, by decide +kernel⟩
theorem ckX5_amount : Cond.code MX5_amount.1 MX5_amount.2.1 MX5_amount.2.2.1 MX5_amount.2.2.2 ∈ lw_tbl ∧ Cond.initialized MX5_amount.1.cls ∈ lw_tbl ∧ (MX5_amount.1.cls ≠ "java/lang/invoke/MethodHandle" ∧ MX5_amount.1.cls ≠ "java/lang/invoke/VarHandle") ∧ (parseMethodDescriptor MX5_amount.1.desc).map (fun d => d.parameters.length) = some 0 := ⟨List.mem_of_getElem? (i := 755) (by decide +kernel), List.mem_of_getElem? (i := 95) (by decide +kernel), ⟨by decide +kernel, by decide +kernel⟩, by decide +kernel⟩
theorem ckX5_isWord : Cond.code MX5_isWord.1 MX5_isWord.2.1 MX5_isWord.2.2.1 MX5_isWord.2.2.2 ∈ lw_tbl ∧ Cond.initialized MX5_isWord.1.cls ∈ lw_tbl ∧ (MX5_isWord.1.cls ≠ "java/lang/invoke/MethodHandle" ∧ MX5_isWord.1.cls ≠ "java/lang/invoke/VarHandle") ∧ (parseMethodDescriptor MX5_isWord.1.desc).map (fun d => d.parameters.length) = some 3 := ⟨List.mem_of_getElem? (i := 732) (by decide +kernel), List.mem_of_getElem? (i := 95) (by decide +kernel), ⟨by decide +kernel, by decide +kernel⟩, by decide +kernel⟩
theorem ckX5_wordOf : Cond.code MX5_wordOf.1 MX5_wordOf.2.1 MX5_wordOf.2.2.1 MX5_wordOf.2.2.2 ∈ lw_tbl ∧ Cond.initialized MX5_wordOf.1.cls ∈ lw_tbl ∧ (MX5_wordOf.1.cls ≠ "java/lang/invoke/MethodHandle" ∧ MX5_wordOf.1.cls ≠ "java/lang/invoke/VarHandle") ∧ (parseMethodDescriptor MX5_wordOf.1.desc).map (fun d => d.parameters.length) = some 1 := ⟨List.mem_of_getElem? (i := 727) (by decide +kernel), List.mem_of_getElem? (i := 95) (by decide +kernel), ⟨by decide +kernel, by decide +kernel⟩, by decide +kernel⟩
theorem ckX5_readsCommand : Cond.code MX5_readsCommand.1 MX5_readsCommand.2.1 MX5_readsCommand.2.2.1 MX5_readsCommand.2.2.2 ∈ lw_tbl ∧ Cond.initialized MX5_readsCommand.1.cls ∈ lw_tbl ∧ (MX5_readsCommand.1.cls ≠ "java/lang/invoke/MethodHandle" ∧ MX5_readsCommand.1.cls ≠ "java/lang/invoke/VarHandle") ∧ (parseMethodDescriptor MX5_readsCommand.1.desc).map (fun d => d.parameters.length) = some 0 := ⟨List.mem_of_getElem? (i := 723) (by decide +kernel), List.mem_of_getElem? (i := 95) (by decide +kernel), ⟨by decide +kernel, by decide +kernel⟩, by decide +kernel⟩
theorem ckX5_readsScript : Cond.code MX5_readsScript.1 MX5_readsScript.2.1 MX5_readsScript.2.2.1 MX5_readsScript.2.2.2 ∈ lw_tbl ∧ Cond.initialized MX5_readsScript.1.cls ∈ lw_tbl ∧ (MX5_readsScript.1.cls ≠ "java/lang/invoke/MethodHandle" ∧ MX5_readsScript.1.cls ≠ "java/lang/invoke/VarHandle") ∧ (parseMethodDescriptor MX5_readsScript.1.desc).map (fun d => d.parameters.length) = some 0 := ⟨List.mem_of_getElem? (i := 711) (by decide +kernel), List.mem_of_getElem? (i := 95) (by decide +kernel), ⟨by decide +kernel, by decide +kernel⟩, by decide +kernel⟩
theorem ckX5_turns : Cond.code MX5_turns.1 MX5_turns.2.1 MX5_turns.2.2.1 MX5_turns.2.2.2 ∈ lw_tbl ∧ Cond.initialized MX5_turns.1.cls ∈ lw_tbl ∧ (MX5_turns.1.cls ≠ "java/lang/invoke/MethodHandle" ∧ MX5_turns.1.cls ≠ "java/lang/invoke/VarHandle") ∧ (parseMethodDescriptor MX5_turns.1.desc).map (fun d => d.parameters.length) = some 2 := ⟨List.mem_of_getElem? (i := 767) (by decide +kernel), List.mem_of_getElem? (i := 95) (by decide +kernel), ⟨by decide +kernel, by decide +kernel⟩, by decide +kernel⟩
theorem ckX5_does : Cond.code MX5_does.1 MX5_does.2.1 MX5_does.2.2.1 MX5_does.2.2.2 ∈ lw_tbl ∧ Cond.initialized MX5_does.1.cls ∈ lw_tbl ∧ (MX5_does.1.cls ≠ "java/lang/invoke/MethodHandle" ∧ MX5_does.1.cls ≠ "java/lang/invoke/VarHandle") ∧ (parseMethodDescriptor MX5_does.1.desc).map (fun d => d.parameters.length) = some 1 := ⟨List.mem_of_getElem? (i := 763) (by decide +kernel), List.mem_of_getElem? (i := 95) (by decide +kernel), ⟨by decide +kernel, by decide +kernel⟩, by decide +kernel⟩
theorem ckX5_play : Cond.code MX5_play.1 MX5_play.2.1 MX5_play.2.2.1 MX5_play.2.2.2 ∈ lw_tbl ∧ Cond.initialized MX5_play.1.cls ∈ lw_tbl ∧ (MX5_play.1.cls ≠ "java/lang/invoke/MethodHandle" ∧ MX5_play.1.cls ≠ "java/lang/invoke/VarHandle") ∧ (parseMethodDescriptor MX5_play.1.desc).map (fun d => d.parameters.length) = some 0 := ⟨List.mem_of_getElem? (i := 707) (by decide +kernel), List.mem_of_getElem? (i := 95) (by decide +kernel), ⟨by decide +kernel, by decide +kernel⟩, by decide +kernel⟩
theorem ckX5_raise : Cond.code MX5_raise.1 MX5_raise.2.1 MX5_raise.2.2.1 MX5_raise.2.2.2 ∈ lw_tbl ∧ Cond.initialized MX5_raise.1.cls ∈ lw_tbl ∧ (MX5_raise.1.cls ≠ "java/lang/invoke/MethodHandle" ∧ MX5_raise.1.cls ≠ "java/lang/invoke/VarHandle") ∧ (parseMethodDescriptor MX5_raise.1.desc).map (fun d => d.parameters.length) = some 0 := ⟨List.mem_of_getElem? (i := 771) (by decide +kernel), List.mem_of_getElem? (i := 95) (by decide +kernel), ⟨by decide +kernel, by decide +kernel⟩, by decide +kernel⟩
theorem ckX5_isNear : Cond.code MX5_isNear.1 MX5_isNear.2.1 MX5_isNear.2.2.1 MX5_isNear.2.2.2 ∈ lw_tbl ∧ Cond.initialized MX5_isNear.1.cls ∈ lw_tbl ∧ (MX5_isNear.1.cls ≠ "java/lang/invoke/MethodHandle" ∧ MX5_isNear.1.cls ≠ "java/lang/invoke/VarHandle") ∧ (parseMethodDescriptor MX5_isNear.1.desc).map (fun d => d.parameters.length) = some 0 := ⟨List.mem_of_getElem? (i := 795) (by decide +kernel), List.mem_of_getElem? (i := 95) (by decide +kernel), ⟨by decide +kernel, by decide +kernel⟩, by decide +kernel⟩
theorem ckX5_keep : Cond.code MX5_keep.1 MX5_keep.2.1 MX5_keep.2.2.1 MX5_keep.2.2.2 ∈ lw_tbl ∧ Cond.initialized MX5_keep.1.cls ∈ lw_tbl ∧ (MX5_keep.1.cls ≠ "java/lang/invoke/MethodHandle" ∧ MX5_keep.1.cls ≠ "java/lang/invoke/VarHandle") ∧ (parseMethodDescriptor MX5_keep.1.desc).map (fun d => d.parameters.length) = some 0 := ⟨List.mem_of_getElem? (i := 787) (by decide +kernel), List.mem_of_getElem? (i := 95) (by decide +kernel), ⟨by decide +kernel, by decide +kernel⟩, by decide +kernel⟩
theorem ckX5_load : Cond.code MX5_load.1 MX5_load.2.1 MX5_load.2.2.1 MX5_load.2.2.2 ∈ lw_tbl ∧ Cond.initialized MX5_load.1.cls ∈ lw_tbl ∧ (MX5_load.1.cls ≠ "java/lang/invoke/MethodHandle" ∧ MX5_load.1.cls ≠ "java/lang/invoke/VarHandle") ∧ (parseMethodDescriptor MX5_load.1.desc).map (fun d => d.parameters.length) = some 1 := ⟨List.mem_of_getElem? (i := 843) (by decide +kernel), List.mem_of_getElem? (i := 95) (by decide +kernel), ⟨by decide +kernel, by decide +kernel⟩, by decide +kernel⟩
theorem ckX5_basedOn : Cond.code MX5_basedOn.1 MX5_basedOn.2.1 MX5_basedOn.2.2.1 MX5_basedOn.2.2.2 ∈ lw_tbl ∧ Cond.initialized MX5_basedOn.1.cls ∈ lw_tbl ∧ (MX5_basedOn.1.cls ≠ "java/lang/invoke/MethodHandle" ∧ MX5_basedOn.1.cls ≠ "java/lang/invoke/VarHandle") ∧ (parseMethodDescriptor MX5_basedOn.1.desc).map (fun d => d.parameters.length) = some 1 := ⟨List.mem_of_getElem? (i := 851) (by decide +kernel), List.mem_of_getElem? (i := 95) (by decide +kernel), ⟨by decide +kernel, by decide +kernel⟩, by decide +kernel⟩
theorem ckX5_drop : Cond.code MX5_drop.1 MX5_drop.2.1 MX5_drop.2.2.1 MX5_drop.2.2.2 ∈ lw_tbl ∧ Cond.initialized MX5_drop.1.cls ∈ lw_tbl ∧ (MX5_drop.1.cls ≠ "java/lang/invoke/MethodHandle" ∧ MX5_drop.1.cls ≠ "java/lang/invoke/VarHandle") ∧ (parseMethodDescriptor MX5_drop.1.desc).map (fun d => d.parameters.length) = some 2 := ⟨List.mem_of_getElem? (i := 847) (by decide +kernel), List.mem_of_getElem? (i := 95) (by decide +kernel), ⟨by decide +kernel, by decide +kernel⟩, by decide +kernel⟩
theorem ckX5_alter : Cond.code MX5_alter.1 MX5_alter.2.1 MX5_alter.2.2.1 MX5_alter.2.2.2 ∈ lw_tbl ∧ Cond.initialized MX5_alter.1.cls ∈ lw_tbl ∧ (MX5_alter.1.cls ≠ "java/lang/invoke/MethodHandle" ∧ MX5_alter.1.cls ≠ "java/lang/invoke/VarHandle") ∧ (parseMethodDescriptor MX5_alter.1.desc).map (fun d => d.parameters.length) = some 3 := ⟨List.mem_of_getElem? (i := 855) (by decide +kernel), List.mem_of_getElem? (i := 95) (by decide +kernel), ⟨by decide +kernel, by decide +kernel⟩, by decide +kernel⟩
theorem ckX5_weight : Cond.code MX5_weight.1 MX5_weight.2.1 MX5_weight.2.2.1 MX5_weight.2.2.2 ∈ lw_tbl ∧ Cond.initialized MX5_weight.1.cls ∈ lw_tbl ∧ (MX5_weight.1.cls ≠ "java/lang/invoke/MethodHandle" ∧ MX5_weight.1.cls ≠ "java/lang/invoke/VarHandle") ∧ (parseMethodDescriptor MX5_weight.1.desc).map (fun d => d.parameters.length) = some 1 := ⟨List.mem_of_getElem? (i := 867) (by decide +kernel), List.mem_of_getElem? (i := 95) (by decide +kernel), ⟨by decide +kernel, by decide +kernel⟩, by decide +kernel⟩
theorem ckX5_weights : Cond.code MX5_weights.1 MX5_weights.2.1 MX5_weights.2.2.1 MX5_weights.2.2.2 ∈ lw_tbl ∧ Cond.initialized MX5_weights.1.cls ∈ lw_tbl ∧ (MX5_weights.1.cls ≠ "java/lang/invoke/MethodHandle" ∧ MX5_weights.1.cls ≠ "java/lang/invoke/VarHandle") ∧ (parseMethodDescriptor MX5_weights.1.desc).map (fun d => d.parameters.length) = some 0 := ⟨List.mem_of_getElem? (i := 863) (by decide +kernel), List.mem_of_getElem? (i := 95) (by decide +kernel), ⟨by decide +kernel, by decide +kernel⟩, by decide +kernel⟩
theorem ckX5_nearestBase : Cond.code MX5_nearestBase.1 MX5_nearestBase.2.1 MX5_nearestBase.2.2.1 MX5_nearestBase.2.2.2 ∈ lw_tbl ∧ Cond.initialized MX5_nearestBase.1.cls ∈ lw_tbl ∧ (MX5_nearestBase.1.cls ≠ "java/lang/invoke/MethodHandle" ∧ MX5_nearestBase.1.cls ≠ "java/lang/invoke/VarHandle") ∧ (parseMethodDescriptor MX5_nearestBase.1.desc).map (fun d => d.parameters.length) = some 1 := ⟨List.mem_of_getElem? (i := 871) (by decide +kernel), List.mem_of_getElem? (i := 95) (by decide +kernel), ⟨by decide +kernel, by decide +kernel⟩, by decide +kernel⟩
theorem ckX5_pack : Cond.code MX5_pack.1 MX5_pack.2.1 MX5_pack.2.2.1 MX5_pack.2.2.2 ∈ lw_tbl ∧ Cond.initialized MX5_pack.1.cls ∈ lw_tbl ∧ (MX5_pack.1.cls ≠ "java/lang/invoke/MethodHandle" ∧ MX5_pack.1.cls ≠ "java/lang/invoke/VarHandle") ∧ (parseMethodDescriptor MX5_pack.1.desc).map (fun d => d.parameters.length) = some 0 := ⟨List.mem_of_getElem? (i := 859) (by decide +kernel), List.mem_of_getElem? (i := 95) (by decide +kernel), ⟨by decide +kernel, by decide +kernel⟩, by decide +kernel⟩
theorem ckX5_set : Cond.code MX5_set.1 MX5_set.2.1 MX5_set.2.2.1 MX5_set.2.2.2 ∈ lw_tbl ∧ Cond.initialized MX5_set.1.cls ∈ lw_tbl ∧ (MX5_set.1.cls ≠ "java/lang/invoke/MethodHandle" ∧ MX5_set.1.cls ≠ "java/lang/invoke/VarHandle") ∧ (parseMethodDescriptor MX5_set.1.desc).map (fun d => d.parameters.length) = some 2 := ⟨List.mem_of_getElem? (i := 879) (by decide +kernel), List.mem_of_getElem? (i := 95) (by decide +kernel), ⟨by decide +kernel, by decide +kernel⟩, by decide +kernel⟩
theorem ckX5_value : Cond.code MX5_value.1 MX5_value.2.1 MX5_value.2.2.1 MX5_value.2.2.2 ∈ lw_tbl ∧ Cond.initialized MX5_value.1.cls ∈ lw_tbl ∧ (MX5_value.1.cls ≠ "java/lang/invoke/MethodHandle" ∧ MX5_value.1.cls ≠ "java/lang/invoke/VarHandle") ∧ (parseMethodDescriptor MX5_value.1.desc).map (fun d => d.parameters.length) = some 1 := ⟨List.mem_of_getElem? (i := 883) (by decide +kernel), List.mem_of_getElem? (i := 95) (by decide +kernel), ⟨by decide +kernel, by decide +kernel⟩, by decide +kernel⟩
theorem ckX5_part : Cond.code MX5_part.1 MX5_part.2.1 MX5_part.2.2.1 MX5_part.2.2.2 ∈ lw_tbl ∧ Cond.initialized MX5_part.1.cls ∈ lw_tbl ∧ (MX5_part.1.cls ≠ "java/lang/invoke/MethodHandle" ∧ MX5_part.1.cls ≠ "java/lang/invoke/VarHandle") ∧ (parseMethodDescriptor MX5_part.1.desc).map (fun d => d.parameters.length) = some 2 := ⟨List.mem_of_getElem? (i := 891) (by decide +kernel), List.mem_of_getElem? (i := 95) (by decide +kernel), ⟨by decide +kernel, by decide +kernel⟩, by decide +kernel⟩
theorem ckX5_kept : Cond.code MX5_kept.1 MX5_kept.2.1 MX5_kept.2.2.1 MX5_kept.2.2.2 ∈ lw_tbl ∧ Cond.initialized MX5_kept.1.cls ∈ lw_tbl ∧ (MX5_kept.1.cls ≠ "java/lang/invoke/MethodHandle" ∧ MX5_kept.1.cls ≠ "java/lang/invoke/VarHandle") ∧ (parseMethodDescriptor MX5_kept.1.desc).map (fun d => d.parameters.length) = some 2 := ⟨List.mem_of_getElem? (i := 887) (by decide +kernel), List.mem_of_getElem? (i := 95) (by decide +kernel), ⟨by decide +kernel, by decide +kernel⟩, by decide +kernel⟩
theorem ckX5_entry : Cond.code MX5_entry.1 MX5_entry.2.1 MX5_entry.2.2.1 MX5_entry.2.2.2 ∈ lw_tbl ∧ Cond.initialized MX5_entry.1.cls ∈ lw_tbl ∧ (MX5_entry.1.cls ≠ "java/lang/invoke/MethodHandle" ∧ MX5_entry.1.cls ≠ "java/lang/invoke/VarHandle") ∧ (parseMethodDescriptor MX5_entry.1.desc).map (fun d => d.parameters.length) = some 3 := ⟨List.mem_of_getElem? (i := 895) (by decide +kernel), List.mem_of_getElem? (i := 95) (by decide +kernel), ⟨by decide +kernel, by decide +kernel⟩, by decide +kernel⟩
theorem ckX5_read : Cond.code MX5_read.1 MX5_read.2.1 MX5_read.2.2.1 MX5_read.2.2.2 ∈ lw_tbl ∧ Cond.initialized MX5_read.1.cls ∈ lw_tbl ∧ (MX5_read.1.cls ≠ "java/lang/invoke/MethodHandle" ∧ MX5_read.1.cls ≠ "java/lang/invoke/VarHandle") ∧ (parseMethodDescriptor MX5_read.1.desc).map (fun d => d.parameters.length) = some 3 := ⟨List.mem_of_getElem? (i := 899) (by decide +kernel), List.mem_of_getElem? (i := 95) (by decide +kernel), ⟨by decide +kernel, by decide +kernel⟩, by decide +kernel⟩
theorem ckX5_cause : Cond.code MX5_cause.1 MX5_cause.2.1 MX5_cause.2.2.1 MX5_cause.2.2.2 ∈ lw_tbl ∧ Cond.initialized MX5_cause.1.cls ∈ lw_tbl ∧ (MX5_cause.1.cls ≠ "java/lang/invoke/MethodHandle" ∧ MX5_cause.1.cls ≠ "java/lang/invoke/VarHandle") ∧ (parseMethodDescriptor MX5_cause.1.desc).map (fun d => d.parameters.length) = some 3 := ⟨List.mem_of_getElem? (i := 903) (by decide +kernel), List.mem_of_getElem? (i := 95) (by decide +kernel), ⟨by decide +kernel, by decide +kernel⟩, by decide +kernel⟩
theorem ckX5_apart : Cond.code MX5_apart.1 MX5_apart.2.1 MX5_apart.2.2.1 MX5_apart.2.2.2 ∈ lw_tbl ∧ Cond.initialized MX5_apart.1.cls ∈ lw_tbl ∧ (MX5_apart.1.cls ≠ "java/lang/invoke/MethodHandle" ∧ MX5_apart.1.cls ≠ "java/lang/invoke/VarHandle") ∧ (parseMethodDescriptor MX5_apart.1.desc).map (fun d => d.parameters.length) = some 2 := ⟨List.mem_of_getElem? (i := 907) (by decide +kernel), List.mem_of_getElem? (i := 95) (by decide +kernel), ⟨by decide +kernel, by decide +kernel⟩, by decide +kernel⟩
theorem ckX5_isInChain : Cond.code MX5_isInChain.1 MX5_isInChain.2.1 MX5_isInChain.2.2.1 MX5_isInChain.2.2.2 ∈ lw_tbl ∧ Cond.initialized MX5_isInChain.1.cls ∈ lw_tbl ∧ (MX5_isInChain.1.cls ≠ "java/lang/invoke/MethodHandle" ∧ MX5_isInChain.1.cls ≠ "java/lang/invoke/VarHandle") ∧ (parseMethodDescriptor MX5_isInChain.1.desc).map (fun d => d.parameters.length) = some 1 := ⟨List.mem_of_getElem? (i := 915) (by decide +kernel), List.mem_of_getElem? (i := 95) (by decide +kernel), ⟨by decide +kernel, by decide +kernel⟩, by decide +kernel⟩
theorem ckX5_fork : Cond.code MX5_fork.1 MX5_fork.2.1 MX5_fork.2.2.1 MX5_fork.2.2.2 ∈ lw_tbl ∧ Cond.initialized MX5_fork.1.cls ∈ lw_tbl ∧ (MX5_fork.1.cls ≠ "java/lang/invoke/MethodHandle" ∧ MX5_fork.1.cls ≠ "java/lang/invoke/VarHandle") ∧ (parseMethodDescriptor MX5_fork.1.desc).map (fun d => d.parameters.length) = some 2 := ⟨List.mem_of_getElem? (i := 911) (by decide +kernel), List.mem_of_getElem? (i := 95) (by decide +kernel), ⟨by decide +kernel, by decide +kernel⟩, by decide +kernel⟩
theorem ckX5_nearest : Cond.code MX5_nearest.1 MX5_nearest.2.1 MX5_nearest.2.2.1 MX5_nearest.2.2.2 ∈ lw_tbl ∧ Cond.initialized MX5_nearest.1.cls ∈ lw_tbl ∧ (MX5_nearest.1.cls ≠ "java/lang/invoke/MethodHandle" ∧ MX5_nearest.1.cls ≠ "java/lang/invoke/VarHandle") ∧ (parseMethodDescriptor MX5_nearest.1.desc).map (fun d => d.parameters.length) = some 0 := ⟨List.mem_of_getElem? (i := 919) (by decide +kernel), List.mem_of_getElem? (i := 95) (by decide +kernel), ⟨by decide +kernel, by decide +kernel⟩, by decide +kernel⟩
theorem ckX5_counts : Cond.code MX5_counts.1 MX5_counts.2.1 MX5_counts.2.2.1 MX5_counts.2.2.2 ∈ lw_tbl ∧ Cond.initialized MX5_counts.1.cls ∈ lw_tbl ∧ (MX5_counts.1.cls ≠ "java/lang/invoke/MethodHandle" ∧ MX5_counts.1.cls ≠ "java/lang/invoke/VarHandle") ∧ (parseMethodDescriptor MX5_counts.1.desc).map (fun d => d.parameters.length) = some 1 := ⟨List.mem_of_getElem? (i := 927) (by decide +kernel), List.mem_of_getElem? (i := 95) (by decide +kernel), ⟨by decide +kernel, by decide +kernel⟩, by decide +kernel⟩
theorem ckX5_longest : Cond.code MX5_longest.1 MX5_longest.2.1 MX5_longest.2.2.1 MX5_longest.2.2.2 ∈ lw_tbl ∧ Cond.initialized MX5_longest.1.cls ∈ lw_tbl ∧ (MX5_longest.1.cls ≠ "java/lang/invoke/MethodHandle" ∧ MX5_longest.1.cls ≠ "java/lang/invoke/VarHandle") ∧ (parseMethodDescriptor MX5_longest.1.desc).map (fun d => d.parameters.length) = some 0 := ⟨List.mem_of_getElem? (i := 931) (by decide +kernel), List.mem_of_getElem? (i := 95) (by decide +kernel), ⟨by decide +kernel, by decide +kernel⟩, by decide +kernel⟩
theorem ckX5_count : Cond.code MX5_count.1 MX5_count.2.1 MX5_count.2.2.1 MX5_count.2.2.2 ∈ lw_tbl ∧ Cond.initialized MX5_count.1.cls ∈ lw_tbl ∧ (MX5_count.1.cls ≠ "java/lang/invoke/MethodHandle" ∧ MX5_count.1.cls ≠ "java/lang/invoke/VarHandle") ∧ (parseMethodDescriptor MX5_count.1.desc).map (fun d => d.parameters.length) = some 1 := ⟨List.mem_of_getElem? (i := 923) (by decide +kernel), List.mem_of_getElem? (i := 95) (by decide +kernel), ⟨by decide +kernel, by decide +kernel⟩, by decide +kernel⟩
theorem ckX5_mixes : Cond.code MX5_mixes.1 MX5_mixes.2.1 MX5_mixes.2.2.1 MX5_mixes.2.2.2 ∈ lw_tbl ∧ Cond.initialized MX5_mixes.1.cls ∈ lw_tbl ∧ (MX5_mixes.1.cls ≠ "java/lang/invoke/MethodHandle" ∧ MX5_mixes.1.cls ≠ "java/lang/invoke/VarHandle") ∧ (parseMethodDescriptor MX5_mixes.1.desc).map (fun d => d.parameters.length) = some 1 := ⟨List.mem_of_getElem? (i := 941) (by decide +kernel), List.mem_of_getElem? (i := 95) (by decide +kernel), ⟨by decide +kernel, by decide +kernel⟩, by decide +kernel⟩
theorem ckX5_mixesKept : Cond.code MX5_mixesKept.1 MX5_mixesKept.2.1 MX5_mixesKept.2.2.1 MX5_mixesKept.2.2.2 ∈ lw_tbl ∧ Cond.initialized MX5_mixesKept.1.cls ∈ lw_tbl ∧ (MX5_mixesKept.1.cls ≠ "java/lang/invoke/MethodHandle" ∧ MX5_mixesKept.1.cls ≠ "java/lang/invoke/VarHandle") ∧ (parseMethodDescriptor MX5_mixesKept.1.desc).map (fun d => d.parameters.length) = some 1 := ⟨List.mem_of_getElem? (i := 946) (by decide +kernel), List.mem_of_getElem? (i := 95) (by decide +kernel), ⟨by decide +kernel, by decide +kernel⟩, by decide +kernel⟩
theorem ckX5_digest : Cond.code MX5_digest.1 MX5_digest.2.1 MX5_digest.2.2.1 MX5_digest.2.2.2 ∈ lw_tbl ∧ Cond.initialized MX5_digest.1.cls ∈ lw_tbl ∧ (MX5_digest.1.cls ≠ "java/lang/invoke/MethodHandle" ∧ MX5_digest.1.cls ≠ "java/lang/invoke/VarHandle") ∧ (parseMethodDescriptor MX5_digest.1.desc).map (fun d => d.parameters.length) = some 0 := ⟨List.mem_of_getElem? (i := 935) (by decide +kernel), List.mem_of_getElem? (i := 95) (by decide +kernel), ⟨by decide +kernel, by decide +kernel⟩, by decide +kernel⟩
theorem clL_9 : sv_cI RL 9 MX4_init 0 := ⟨⟨ckX4_init.1, ckX4_init.2.1, ckX4_init.2.2.1, ckX4_init.2.2.2, Or.inl (List.mem_of_getElem? (i := 104) (by decide +kernel))⟩, List.mem_of_getElem? (i := 105) (by decide +kernel), rfl, rfl⟩
theorem clX4_9 : sv_cI RX4 9 MX1_init 0 := ⟨⟨ckX1_init.1, ckX1_init.2.1, ckX1_init.2.2.1, ckX1_init.2.2.2, Or.inr ⟨"StateVault", List.mem_of_getElem? (i := 112) (by decide +kernel)⟩⟩, List.mem_of_getElem? (i := 113) (by decide +kernel), rfl, rfl⟩
theorem clX1_37 : sv_cI RX1 37 MX0_init 0 := ⟨⟨ckX0_init.1, ckX0_init.2.1, ckX0_init.2.2.1, ckX0_init.2.2.2, Or.inr ⟨"StateVault", List.mem_of_getElem? (i := 119) (by decide +kernel)⟩⟩, List.mem_of_getElem? (i := 120) (by decide +kernel), rfl, rfl⟩
theorem clX4_26 : sv_cI RX4 26 MX3_init 0 := ⟨⟨ckX3_init.1, ckX3_init.2.1, ckX3_init.2.2.1, ckX3_init.2.2.2, Or.inr ⟨"StateVault", List.mem_of_getElem? (i := 195) (by decide +kernel)⟩⟩, List.mem_of_getElem? (i := 196) (by decide +kernel), rfl, rfl⟩
theorem clX4_33 : sv_cI RX4 33 MX2_init 0 := ⟨⟨ckX2_init.1, ckX2_init.2.1, ckX2_init.2.2.1, ckX2_init.2.2.2, Or.inr ⟨"StateVault", List.mem_of_getElem? (i := 223) (by decide +kernel)⟩⟩, List.mem_of_getElem? (i := 224) (by decide +kernel), rfl, rfl⟩
theorem clL_13 : sv_cV RL 13 MX4_type 1 := ⟨⟨ckX4_type.1, ckX4_type.2.1, ckX4_type.2.2.1, ckX4_type.2.2.2, Or.inl (List.mem_of_getElem? (i := 260) (by decide +kernel))⟩, List.mem_of_getElem? (i := 261) (by decide +kernel), List.mem_of_getElem? (i := 262) (by decide +kernel)⟩
theorem clL_18 : sv_cV RL 18 MX4_clear 0 := ⟨⟨ckX4_clear.1, ckX4_clear.2.1, ckX4_clear.2.2.1, ckX4_clear.2.2.2, Or.inl (List.mem_of_getElem? (i := 264) (by decide +kernel))⟩, List.mem_of_getElem? (i := 265) (by decide +kernel), List.mem_of_getElem? (i := 266) (by decide +kernel)⟩
theorem clL_23 : sv_cV RL 23 MX4_play 0 := ⟨⟨ckX4_play.1, ckX4_play.2.1, ckX4_play.2.2.1, ckX4_play.2.2.2, Or.inl (List.mem_of_getElem? (i := 268) (by decide +kernel))⟩, List.mem_of_getElem? (i := 269) (by decide +kernel), List.mem_of_getElem? (i := 270) (by decide +kernel)⟩
theorem clX4_57 : sv_cS RX4 57 MX4_sizeOf 1 := ⟨⟨ckX4_sizeOf.1, ckX4_sizeOf.2.1, ckX4_sizeOf.2.2.1, ckX4_sizeOf.2.2.2, Or.inl (List.mem_of_getElem? (i := 272) (by decide +kernel))⟩, List.mem_of_getElem? (i := 273) (by decide +kernel)⟩
theorem clX4_61 : sv_cV RX4 61 MX3_run 2 := ⟨⟨ckX3_run.1, ckX3_run.2.1, ckX3_run.2.2.1, ckX3_run.2.2.2, Or.inr ⟨"StateVault", List.mem_of_getElem? (i := 275) (by decide +kernel)⟩⟩, List.mem_of_getElem? (i := 277) (by decide +kernel), List.mem_of_getElem? (i := 0) (by decide +kernel)⟩
theorem clX3_37 : sv_cV RX3 37 MX3_skipBlanks 0 := ⟨⟨ckX3_skipBlanks.1, ckX3_skipBlanks.2.1, ckX3_skipBlanks.2.2.1, ckX3_skipBlanks.2.2.2, Or.inl (List.mem_of_getElem? (i := 282) (by decide +kernel))⟩, List.mem_of_getElem? (i := 284) (by decide +kernel), List.mem_of_getElem? (i := 1) (by decide +kernel)⟩
theorem clX3_40 : sv_cV RX3 40 MX3_takeWord 0 := ⟨⟨ckX3_takeWord.1, ckX3_takeWord.2.1, ckX3_takeWord.2.2.1, ckX3_takeWord.2.2.2, Or.inl (List.mem_of_getElem? (i := 286) (by decide +kernel))⟩, List.mem_of_getElem? (i := 288) (by decide +kernel), List.mem_of_getElem? (i := 2) (by decide +kernel)⟩
theorem clX3_85 : sv_cV RX3 85 MX3_isLetterNext 0 := ⟨⟨ckX3_isLetterNext.1, ckX3_isLetterNext.2.1, ckX3_isLetterNext.2.2.1, ckX3_isLetterNext.2.2.2, Or.inl (List.mem_of_getElem? (i := 290) (by decide +kernel))⟩, List.mem_of_getElem? (i := 292) (by decide +kernel), List.mem_of_getElem? (i := 3) (by decide +kernel)⟩
theorem clX3_89 : sv_cV RX3 89 MX3_wordAt 1 := ⟨⟨ckX3_wordAt.1, ckX3_wordAt.2.1, ckX3_wordAt.2.2.1, ckX3_wordAt.2.2.2, Or.inl (List.mem_of_getElem? (i := 294) (by decide +kernel))⟩, List.mem_of_getElem? (i := 296) (by decide +kernel), List.mem_of_getElem? (i := 4) (by decide +kernel)⟩
theorem clX3_97 : sv_cV RX3 97 MX3_isSpelled 2 := ⟨⟨ckX3_isSpelled.1, ckX3_isSpelled.2.1, ckX3_isSpelled.2.2.1, ckX3_isSpelled.2.2.2, Or.inl (List.mem_of_getElem? (i := 299) (by decide +kernel))⟩, List.mem_of_getElem? (i := 301) (by decide +kernel), List.mem_of_getElem? (i := 5) (by decide +kernel)⟩
theorem clX3_92 : sv_cV RX3 92 MX3_failAt 1 := ⟨⟨ckX3_failAt.1, ckX3_failAt.2.1, ckX3_failAt.2.2.1, ckX3_failAt.2.2.2, Or.inl (List.mem_of_getElem? (i := 355) (by decide +kernel))⟩, List.mem_of_getElem? (i := 357) (by decide +kernel), List.mem_of_getElem? (i := 6) (by decide +kernel)⟩
theorem clX3_44 : sv_cV RX3 44 MX3_runCommand 1 := ⟨⟨ckX3_runCommand.1, ckX3_runCommand.2.1, ckX3_runCommand.2.2.1, ckX3_runCommand.2.2.2, Or.inl (List.mem_of_getElem? (i := 359) (by decide +kernel))⟩, List.mem_of_getElem? (i := 361) (by decide +kernel), List.mem_of_getElem? (i := 7) (by decide +kernel)⟩
theorem clX3_48 : sv_cV RX3 48 MX3_runSet 0 := ⟨⟨ckX3_runSet.1, ckX3_runSet.2.1, ckX3_runSet.2.2.1, ckX3_runSet.2.2.2, Or.inl (List.mem_of_getElem? (i := 363) (by decide +kernel))⟩, List.mem_of_getElem? (i := 365) (by decide +kernel), List.mem_of_getElem? (i := 8) (by decide +kernel)⟩
theorem clX3_63 : sv_cV RX3 63 MX3_takeIndex 1 := ⟨⟨ckX3_takeIndex.1, ckX3_takeIndex.2.1, ckX3_takeIndex.2.2.1, ckX3_takeIndex.2.2.2, Or.inl (List.mem_of_getElem? (i := 367) (by decide +kernel))⟩, List.mem_of_getElem? (i := 369) (by decide +kernel), List.mem_of_getElem? (i := 9) (by decide +kernel)⟩
theorem clX3_117 : sv_cV RX3 117 MX3_takeDigits 0 := ⟨⟨ckX3_takeDigits.1, ckX3_takeDigits.2.1, ckX3_takeDigits.2.2.1, ckX3_takeDigits.2.2.2, Or.inl (List.mem_of_getElem? (i := 371) (by decide +kernel))⟩, List.mem_of_getElem? (i := 373) (by decide +kernel), List.mem_of_getElem? (i := 10) (by decide +kernel)⟩
theorem clX3_120 : sv_cV RX3 120 MX3_isDigitNext 0 := ⟨⟨ckX3_isDigitNext.1, ckX3_isDigitNext.2.1, ckX3_isDigitNext.2.2.1, ckX3_isDigitNext.2.2.2, Or.inl (List.mem_of_getElem? (i := 375) (by decide +kernel))⟩, List.mem_of_getElem? (i := 377) (by decide +kernel), List.mem_of_getElem? (i := 11) (by decide +kernel)⟩
theorem clX3_67 : sv_cV RX3 67 MX3_takeNumber 0 := ⟨⟨ckX3_takeNumber.1, ckX3_takeNumber.2.1, ckX3_takeNumber.2.2.1, ckX3_takeNumber.2.2.2, Or.inl (List.mem_of_getElem? (i := 379) (by decide +kernel))⟩, List.mem_of_getElem? (i := 381) (by decide +kernel), List.mem_of_getElem? (i := 12) (by decide +kernel)⟩
theorem clX3_70 : sv_cV RX3 70 MX3_takeSemicolon 0 := ⟨⟨ckX3_takeSemicolon.1, ckX3_takeSemicolon.2.1, ckX3_takeSemicolon.2.2.1, ckX3_takeSemicolon.2.2.2, Or.inl (List.mem_of_getElem? (i := 383) (by decide +kernel))⟩, List.mem_of_getElem? (i := 385) (by decide +kernel), List.mem_of_getElem? (i := 13) (by decide +kernel)⟩
theorem clX3_123 : sv_cV RX3 123 MX3_isNext 1 := ⟨⟨ckX3_isNext.1, ckX3_isNext.2.1, ckX3_isNext.2.2.1, ckX3_isNext.2.2.2, Or.inl (List.mem_of_getElem? (i := 387) (by decide +kernel))⟩, List.mem_of_getElem? (i := 389) (by decide +kernel), List.mem_of_getElem? (i := 14) (by decide +kernel)⟩
theorem clX3_51 : sv_cV RX3 51 MX3_runAdd 0 := ⟨⟨ckX3_runAdd.1, ckX3_runAdd.2.1, ckX3_runAdd.2.2.1, ckX3_runAdd.2.2.2, Or.inl (List.mem_of_getElem? (i := 391) (by decide +kernel))⟩, List.mem_of_getElem? (i := 393) (by decide +kernel), List.mem_of_getElem? (i := 15) (by decide +kernel)⟩
theorem clX3_73 : sv_cV RX3 73 MX3_takeAmount 0 := ⟨⟨ckX3_takeAmount.1, ckX3_takeAmount.2.1, ckX3_takeAmount.2.2.1, ckX3_takeAmount.2.2.2, Or.inl (List.mem_of_getElem? (i := 395) (by decide +kernel))⟩, List.mem_of_getElem? (i := 397) (by decide +kernel), List.mem_of_getElem? (i := 16) (by decide +kernel)⟩
theorem clX3_54 : sv_cV RX3 54 MX3_runSwap 0 := ⟨⟨ckX3_runSwap.1, ckX3_runSwap.2.1, ckX3_runSwap.2.2.1, ckX3_runSwap.2.2.2, Or.inl (List.mem_of_getElem? (i := 405) (by decide +kernel))⟩, List.mem_of_getElem? (i := 407) (by decide +kernel), List.mem_of_getElem? (i := 17) (by decide +kernel)⟩
theorem clX3_57 : sv_cV RX3 57 MX3_runFill 0 := ⟨⟨ckX3_runFill.1, ckX3_runFill.2.1, ckX3_runFill.2.2.1, ckX3_runFill.2.2.2, Or.inl (List.mem_of_getElem? (i := 409) (by decide +kernel))⟩, List.mem_of_getElem? (i := 411) (by decide +kernel), List.mem_of_getElem? (i := 18) (by decide +kernel)⟩
theorem clX3_60 : sv_cV RX3 60 MX3_runTurn 0 := ⟨⟨ckX3_runTurn.1, ckX3_runTurn.2.1, ckX3_runTurn.2.2.1, ckX3_runTurn.2.2.2, Or.inl (List.mem_of_getElem? (i := 413) (by decide +kernel))⟩, List.mem_of_getElem? (i := 415) (by decide +kernel), List.mem_of_getElem? (i := 19) (by decide +kernel)⟩
theorem clX4_65 : sv_cV RX4 65 MX4_remember 0 := ⟨⟨ckX4_remember.1, ckX4_remember.2.1, ckX4_remember.2.2.1, ckX4_remember.2.2.2, Or.inl (List.mem_of_getElem? (i := 417) (by decide +kernel))⟩, List.mem_of_getElem? (i := 419) (by decide +kernel), List.mem_of_getElem? (i := 20) (by decide +kernel)⟩
theorem clX4_157 : sv_cV RX4 157 MX1_copyFrom 1 := ⟨⟨ckX1_copyFrom.1, ckX1_copyFrom.2.1, ckX1_copyFrom.2.2.1, ckX1_copyFrom.2.2.2, Or.inr ⟨"StateVault", List.mem_of_getElem? (i := 421) (by decide +kernel)⟩⟩, List.mem_of_getElem? (i := 423) (by decide +kernel), List.mem_of_getElem? (i := 21) (by decide +kernel)⟩
theorem clX1_44 : sv_cV RX1 44 MX0_copyKept 1 := ⟨⟨ckX0_copyKept.1, ckX0_copyKept.2.1, ckX0_copyKept.2.2.1, ckX0_copyKept.2.2.2, Or.inr ⟨"StateVault", List.mem_of_getElem? (i := 426) (by decide +kernel)⟩⟩, List.mem_of_getElem? (i := 428) (by decide +kernel), List.mem_of_getElem? (i := 22) (by decide +kernel)⟩
theorem clL_27 : sv_cV RL 27 MX4_raise 0 := ⟨⟨ckX4_raise.1, ckX4_raise.2.1, ckX4_raise.2.2.1, ckX4_raise.2.2.2, Or.inl (List.mem_of_getElem? (i := 433) (by decide +kernel))⟩, List.mem_of_getElem? (i := 434) (by decide +kernel), List.mem_of_getElem? (i := 435) (by decide +kernel)⟩
theorem clX4_75 : sv_cS RX4 75 MX4_raiseValues 3 := ⟨⟨ckX4_raiseValues.1, ckX4_raiseValues.2.1, ckX4_raiseValues.2.2.1, ckX4_raiseValues.2.2.2, Or.inl (List.mem_of_getElem? (i := 437) (by decide +kernel))⟩, List.mem_of_getElem? (i := 438) (by decide +kernel)⟩
theorem clL_31 : sv_cV RL 31 MX4_keep 0 := ⟨⟨ckX4_keep.1, ckX4_keep.2.1, ckX4_keep.2.2.1, ckX4_keep.2.2.2, Or.inl (List.mem_of_getElem? (i := 441) (by decide +kernel))⟩, List.mem_of_getElem? (i := 442) (by decide +kernel), List.mem_of_getElem? (i := 443) (by decide +kernel)⟩
theorem clX4_85 : sv_cV RX4 85 MX2_readAll 1 := ⟨⟨ckX2_readAll.1, ckX2_readAll.2.1, ckX2_readAll.2.2.1, ckX2_readAll.2.2.2, Or.inr ⟨"StateVault", List.mem_of_getElem? (i := 445) (by decide +kernel)⟩⟩, List.mem_of_getElem? (i := 447) (by decide +kernel), List.mem_of_getElem? (i := 23) (by decide +kernel)⟩
theorem clX2_26 : sv_cV RX2 26 MX2_readPlace 2 := ⟨⟨ckX2_readPlace.1, ckX2_readPlace.2.1, ckX2_readPlace.2.2.1, ckX2_readPlace.2.2.2, Or.inl (List.mem_of_getElem? (i := 449) (by decide +kernel))⟩, List.mem_of_getElem? (i := 451) (by decide +kernel), List.mem_of_getElem? (i := 24) (by decide +kernel)⟩
theorem clX2_39 : sv_cV RX2 39 MX1_placeOf 1 := ⟨⟨ckX1_placeOf.1, ckX1_placeOf.2.1, ckX1_placeOf.2.2.1, ckX1_placeOf.2.2.2, Or.inr ⟨"StateVault", List.mem_of_getElem? (i := 453) (by decide +kernel)⟩⟩, List.mem_of_getElem? (i := 455) (by decide +kernel), List.mem_of_getElem? (i := 25) (by decide +kernel)⟩
theorem clX2_52 : sv_cS RX2 52 MX4_raiseValues 3 := ⟨⟨ckX4_raiseValues.1, ckX4_raiseValues.2.1, ckX4_raiseValues.2.2.1, ckX4_raiseValues.2.2.2, Or.inr ⟨"StateVault", List.mem_of_getElem? (i := 458) (by decide +kernel)⟩⟩, List.mem_of_getElem? (i := 438) (by decide +kernel)⟩
theorem clX2_63 : sv_cS RX2 63 MX4_sumOf 2 := ⟨⟨ckX4_sumOf.1, ckX4_sumOf.2.1, ckX4_sumOf.2.2.1, ckX4_sumOf.2.2.2, Or.inr ⟨"StateVault", List.mem_of_getElem? (i := 459) (by decide +kernel)⟩⟩, List.mem_of_getElem? (i := 460) (by decide +kernel)⟩
theorem clX4_99 : sv_cS RX4 99 MX4_sumOf 2 := ⟨⟨ckX4_sumOf.1, ckX4_sumOf.2.1, ckX4_sumOf.2.2.1, ckX4_sumOf.2.2.2, Or.inl (List.mem_of_getElem? (i := 462) (by decide +kernel))⟩, List.mem_of_getElem? (i := 460) (by decide +kernel)⟩
theorem clX4_105 : sv_cV RX4 105 MX4_baseForGame 0 := ⟨⟨ckX4_baseForGame.1, ckX4_baseForGame.2.1, ckX4_baseForGame.2.2.1, ckX4_baseForGame.2.2.2, Or.inl (List.mem_of_getElem? (i := 463) (by decide +kernel))⟩, List.mem_of_getElem? (i := 465) (by decide +kernel), List.mem_of_getElem? (i := 26) (by decide +kernel)⟩
theorem clX4_124 : sv_cV RX4 124 MX1_placeOf 1 := ⟨⟨ckX1_placeOf.1, ckX1_placeOf.2.1, ckX1_placeOf.2.2.1, ckX1_placeOf.2.2.2, Or.inr ⟨"StateVault", List.mem_of_getElem? (i := 467) (by decide +kernel)⟩⟩, List.mem_of_getElem? (i := 455) (by decide +kernel), List.mem_of_getElem? (i := 25) (by decide +kernel)⟩
theorem clX4_191 : sv_cV RX4 191 MX4_canBeBase 2 := ⟨⟨ckX4_canBeBase.1, ckX4_canBeBase.2.1, ckX4_canBeBase.2.2.1, ckX4_canBeBase.2.2.2, Or.inl (List.mem_of_getElem? (i := 468) (by decide +kernel))⟩, List.mem_of_getElem? (i := 470) (by decide +kernel), List.mem_of_getElem? (i := 27) (by decide +kernel)⟩
theorem clX4_195 : sv_cV RX4 195 MX1_linksOf 1 := ⟨⟨ckX1_linksOf.1, ckX1_linksOf.2.1, ckX1_linksOf.2.2.1, ckX1_linksOf.2.2.2, Or.inr ⟨"StateVault", List.mem_of_getElem? (i := 472) (by decide +kernel)⟩⟩, List.mem_of_getElem? (i := 474) (by decide +kernel), List.mem_of_getElem? (i := 28) (by decide +kernel)⟩
theorem clX1_58 : sv_cV RX1 58 MX1_baseOf 1 := ⟨⟨ckX1_baseOf.1, ckX1_baseOf.2.1, ckX1_baseOf.2.2.1, ckX1_baseOf.2.2.2, Or.inl (List.mem_of_getElem? (i := 476) (by decide +kernel))⟩, List.mem_of_getElem? (i := 478) (by decide +kernel), List.mem_of_getElem? (i := 29) (by decide +kernel)⟩
theorem clX1_51 : sv_cV RX1 51 MX1_placeOf 1 := ⟨⟨ckX1_placeOf.1, ckX1_placeOf.2.1, ckX1_placeOf.2.2.1, ckX1_placeOf.2.2.2, Or.inl (List.mem_of_getElem? (i := 480) (by decide +kernel))⟩, List.mem_of_getElem? (i := 455) (by decide +kernel), List.mem_of_getElem? (i := 25) (by decide +kernel)⟩
theorem clX4_170 : sv_cV RX4 170 MX4_distance 3 := ⟨⟨ckX4_distance.1, ckX4_distance.2.1, ckX4_distance.2.2.1, ckX4_distance.2.2.2, Or.inl (List.mem_of_getElem? (i := 481) (by decide +kernel))⟩, List.mem_of_getElem? (i := 483) (by decide +kernel), List.mem_of_getElem? (i := 30) (by decide +kernel)⟩
theorem clX4_113 : sv_cV RX4 113 MX4_raiseRead 3 := ⟨⟨ckX4_raiseRead.1, ckX4_raiseRead.2.1, ckX4_raiseRead.2.2.1, ckX4_raiseRead.2.2.2, Or.inl (List.mem_of_getElem? (i := 485) (by decide +kernel))⟩, List.mem_of_getElem? (i := 487) (by decide +kernel), List.mem_of_getElem? (i := 31) (by decide +kernel)⟩
theorem clX4_109 : sv_cV RX4 109 MX0_makeWhole 1 := ⟨⟨ckX0_makeWhole.1, ckX0_makeWhole.2.1, ckX0_makeWhole.2.2.1, ckX0_makeWhole.2.2.2, Or.inr ⟨"StateVault", List.mem_of_getElem? (i := 489) (by decide +kernel)⟩⟩, List.mem_of_getElem? (i := 491) (by decide +kernel), List.mem_of_getElem? (i := 32) (by decide +kernel)⟩
theorem clX0_40 : sv_cS RX0 40 MX4_sizeOf 1 := ⟨⟨ckX4_sizeOf.1, ckX4_sizeOf.2.1, ckX4_sizeOf.2.2.1, ckX4_sizeOf.2.2.2, Or.inr ⟨"StateVault", List.mem_of_getElem? (i := 493) (by decide +kernel)⟩⟩, List.mem_of_getElem? (i := 273) (by decide +kernel)⟩
theorem clX4_120 : sv_cV RX4 120 MX0_makeDifference 3 := ⟨⟨ckX0_makeDifference.1, ckX0_makeDifference.2.1, ckX0_makeDifference.2.2.1, ckX0_makeDifference.2.2.2, Or.inr ⟨"StateVault", List.mem_of_getElem? (i := 494) (by decide +kernel)⟩⟩, List.mem_of_getElem? (i := 496) (by decide +kernel), List.mem_of_getElem? (i := 33) (by decide +kernel)⟩
theorem clL_35 : sv_cV RL 35 MX4_load 1 := ⟨⟨ckX4_load.1, ckX4_load.2.1, ckX4_load.2.2.1, ckX4_load.2.2.2, Or.inl (List.mem_of_getElem? (i := 498) (by decide +kernel))⟩, List.mem_of_getElem? (i := 499) (by decide +kernel), List.mem_of_getElem? (i := 500) (by decide +kernel)⟩
theorem clL_39 : sv_cV RL 39 MX4_drop 2 := ⟨⟨ckX4_drop.1, ckX4_drop.2.1, ckX4_drop.2.2.1, ckX4_drop.2.2.2, Or.inl (List.mem_of_getElem? (i := 503) (by decide +kernel))⟩, List.mem_of_getElem? (i := 504) (by decide +kernel), List.mem_of_getElem? (i := 505) (by decide +kernel)⟩
theorem clX4_139 : sv_cV RX4 139 MX4_mendFollowers 1 := ⟨⟨ckX4_mendFollowers.1, ckX4_mendFollowers.2.1, ckX4_mendFollowers.2.2.1, ckX4_mendFollowers.2.2.2, Or.inl (List.mem_of_getElem? (i := 507) (by decide +kernel))⟩, List.mem_of_getElem? (i := 509) (by decide +kernel), List.mem_of_getElem? (i := 34) (by decide +kernel)⟩
theorem clX4_143 : sv_cV RX4 143 MX1_removePlace 1 := ⟨⟨ckX1_removePlace.1, ckX1_removePlace.2.1, ckX1_removePlace.2.2.1, ckX1_removePlace.2.2.2, Or.inr ⟨"StateVault", List.mem_of_getElem? (i := 511) (by decide +kernel)⟩⟩, List.mem_of_getElem? (i := 513) (by decide +kernel), List.mem_of_getElem? (i := 35) (by decide +kernel)⟩
theorem clX4_146 : sv_cV RX4 146 MX1_followersOf 1 := ⟨⟨ckX1_followersOf.1, ckX1_followersOf.2.1, ckX1_followersOf.2.2.1, ckX1_followersOf.2.2.2, Or.inr ⟨"StateVault", List.mem_of_getElem? (i := 515) (by decide +kernel)⟩⟩, List.mem_of_getElem? (i := 517) (by decide +kernel), List.mem_of_getElem? (i := 36) (by decide +kernel)⟩
theorem clL_44 : sv_cV RL 44 MX4_alter 3 := ⟨⟨ckX4_alter.1, ckX4_alter.2.1, ckX4_alter.2.2.1, ckX4_alter.2.2.2, Or.inl (List.mem_of_getElem? (i := 519) (by decide +kernel))⟩, List.mem_of_getElem? (i := 520) (by decide +kernel), List.mem_of_getElem? (i := 521) (by decide +kernel)⟩
theorem clL_49 : sv_cV RL 49 MX4_pack 0 := ⟨⟨ckX4_pack.1, ckX4_pack.2.1, ckX4_pack.2.2.1, ckX4_pack.2.2.2, Or.inl (List.mem_of_getElem? (i := 523) (by decide +kernel))⟩, List.mem_of_getElem? (i := 524) (by decide +kernel), List.mem_of_getElem? (i := 525) (by decide +kernel)⟩
theorem clX4_151 : sv_cV RX4 151 MX1_weight 0 := ⟨⟨ckX1_weight.1, ckX1_weight.2.1, ckX1_weight.2.2.1, ckX1_weight.2.2.2, Or.inr ⟨"StateVault", List.mem_of_getElem? (i := 527) (by decide +kernel)⟩⟩, List.mem_of_getElem? (i := 529) (by decide +kernel), List.mem_of_getElem? (i := 37) (by decide +kernel)⟩
theorem clX1_73 : sv_cV RX1 73 MX0_weight 0 := ⟨⟨ckX0_weight.1, ckX0_weight.2.1, ckX0_weight.2.2.1, ckX0_weight.2.2.2, Or.inr ⟨"StateVault", List.mem_of_getElem? (i := 531) (by decide +kernel)⟩⟩, List.mem_of_getElem? (i := 533) (by decide +kernel), List.mem_of_getElem? (i := 38) (by decide +kernel)⟩
theorem clX4_154 : sv_cV RX4 154 MX4_packPlace 1 := ⟨⟨ckX4_packPlace.1, ckX4_packPlace.2.1, ckX4_packPlace.2.2.1, ckX4_packPlace.2.2.2, Or.inl (List.mem_of_getElem? (i := 535) (by decide +kernel))⟩, List.mem_of_getElem? (i := 537) (by decide +kernel), List.mem_of_getElem? (i := 39) (by decide +kernel)⟩
theorem clL_53 : sv_cV RL 53 MX4_set 2 := ⟨⟨ckX4_set.1, ckX4_set.2.1, ckX4_set.2.2.1, ckX4_set.2.2.2, Or.inl (List.mem_of_getElem? (i := 539) (by decide +kernel))⟩, List.mem_of_getElem? (i := 540) (by decide +kernel), List.mem_of_getElem? (i := 541) (by decide +kernel)⟩
theorem clL_58 : sv_cV RL 58 MX4_undo 0 := ⟨⟨ckX4_undo.1, ckX4_undo.2.1, ckX4_undo.2.2.1, ckX4_undo.2.2.2, Or.inl (List.mem_of_getElem? (i := 543) (by decide +kernel))⟩, List.mem_of_getElem? (i := 544) (by decide +kernel), List.mem_of_getElem? (i := 545) (by decide +kernel)⟩
theorem clL_62 : sv_cV RL 62 MX4_value 1 := ⟨⟨ckX4_value.1, ckX4_value.2.1, ckX4_value.2.2.1, ckX4_value.2.2.2, Or.inl (List.mem_of_getElem? (i := 547) (by decide +kernel))⟩, List.mem_of_getElem? (i := 548) (by decide +kernel), List.mem_of_getElem? (i := 549) (by decide +kernel)⟩
theorem clL_66 : sv_cV RL 66 MX4_kept 2 := ⟨⟨ckX4_kept.1, ckX4_kept.2.1, ckX4_kept.2.2.1, ckX4_kept.2.2.2, Or.inl (List.mem_of_getElem? (i := 551) (by decide +kernel))⟩, List.mem_of_getElem? (i := 552) (by decide +kernel), List.mem_of_getElem? (i := 553) (by decide +kernel)⟩
theorem clX4_160 : sv_cV RX4 160 MX4_propertyOf 2 := ⟨⟨ckX4_propertyOf.1, ckX4_propertyOf.2.1, ckX4_propertyOf.2.2.1, ckX4_propertyOf.2.2.2, Or.inl (List.mem_of_getElem? (i := 555) (by decide +kernel))⟩, List.mem_of_getElem? (i := 557) (by decide +kernel), List.mem_of_getElem? (i := 40) (by decide +kernel)⟩
theorem clX4_205 : sv_cV RX4 205 MX0_weight 0 := ⟨⟨ckX0_weight.1, ckX0_weight.2.1, ckX0_weight.2.2.1, ckX0_weight.2.2.2, Or.inr ⟨"StateVault", List.mem_of_getElem? (i := 559) (by decide +kernel)⟩⟩, List.mem_of_getElem? (i := 533) (by decide +kernel), List.mem_of_getElem? (i := 38) (by decide +kernel)⟩
theorem clL_70 : sv_cV RL 70 MX4_entry 3 := ⟨⟨ckX4_entry.1, ckX4_entry.2.1, ckX4_entry.2.2.1, ckX4_entry.2.2.2, Or.inl (List.mem_of_getElem? (i := 560) (by decide +kernel))⟩, List.mem_of_getElem? (i := 561) (by decide +kernel), List.mem_of_getElem? (i := 562) (by decide +kernel)⟩
theorem clL_74 : sv_cV RL 74 MX4_read 3 := ⟨⟨ckX4_read.1, ckX4_read.2.1, ckX4_read.2.2.1, ckX4_read.2.2.2, Or.inl (List.mem_of_getElem? (i := 564) (by decide +kernel))⟩, List.mem_of_getElem? (i := 565) (by decide +kernel), List.mem_of_getElem? (i := 566) (by decide +kernel)⟩
theorem clL_78 : sv_cV RL 78 MX4_cause 3 := ⟨⟨ckX4_cause.1, ckX4_cause.2.1, ckX4_cause.2.2.1, ckX4_cause.2.2.2, Or.inl (List.mem_of_getElem? (i := 568) (by decide +kernel))⟩, List.mem_of_getElem? (i := 569) (by decide +kernel), List.mem_of_getElem? (i := 570) (by decide +kernel)⟩
theorem clX4_166 : sv_cV RX4 166 MX4_causeOf 3 := ⟨⟨ckX4_causeOf.1, ckX4_causeOf.2.1, ckX4_causeOf.2.2.1, ckX4_causeOf.2.2.2, Or.inl (List.mem_of_getElem? (i := 572) (by decide +kernel))⟩, List.mem_of_getElem? (i := 574) (by decide +kernel), List.mem_of_getElem? (i := 41) (by decide +kernel)⟩
theorem clX4_215 : sv_cV RX4 215 MX4_reasonOf 1 := ⟨⟨ckX4_reasonOf.1, ckX4_reasonOf.2.1, ckX4_reasonOf.2.2.1, ckX4_reasonOf.2.2.2, Or.inl (List.mem_of_getElem? (i := 576) (by decide +kernel))⟩, List.mem_of_getElem? (i := 578) (by decide +kernel), List.mem_of_getElem? (i := 42) (by decide +kernel)⟩
theorem clX4_174 : sv_cV RX4 174 MX1_baseOf 1 := ⟨⟨ckX1_baseOf.1, ckX1_baseOf.2.1, ckX1_baseOf.2.2.1, ckX1_baseOf.2.2.2, Or.inr ⟨"StateVault", List.mem_of_getElem? (i := 580) (by decide +kernel)⟩⟩, List.mem_of_getElem? (i := 478) (by decide +kernel), List.mem_of_getElem? (i := 29) (by decide +kernel)⟩
theorem clL_82 : sv_cV RL 82 MX4_apart 2 := ⟨⟨ckX4_apart.1, ckX4_apart.2.1, ckX4_apart.2.2.1, ckX4_apart.2.2.2, Or.inl (List.mem_of_getElem? (i := 581) (by decide +kernel))⟩, List.mem_of_getElem? (i := 582) (by decide +kernel), List.mem_of_getElem? (i := 583) (by decide +kernel)⟩
theorem clL_86 : sv_cV RL 86 MX4_fork 2 := ⟨⟨ckX4_fork.1, ckX4_fork.2.1, ckX4_fork.2.2.1, ckX4_fork.2.2.2, Or.inl (List.mem_of_getElem? (i := 585) (by decide +kernel))⟩, List.mem_of_getElem? (i := 586) (by decide +kernel), List.mem_of_getElem? (i := 587) (by decide +kernel)⟩
theorem clL_90 : sv_cV RL 90 MX4_nearest 0 := ⟨⟨ckX4_nearest.1, ckX4_nearest.2.1, ckX4_nearest.2.2.1, ckX4_nearest.2.2.2, Or.inl (List.mem_of_getElem? (i := 589) (by decide +kernel))⟩, List.mem_of_getElem? (i := 590) (by decide +kernel), List.mem_of_getElem? (i := 591) (by decide +kernel)⟩
theorem clX4_177 : sv_cV RX4 177 MX4_nearestToGame 0 := ⟨⟨ckX4_nearestToGame.1, ckX4_nearestToGame.2.1, ckX4_nearestToGame.2.2.1, ckX4_nearestToGame.2.2.2, Or.inl (List.mem_of_getElem? (i := 593) (by decide +kernel))⟩, List.mem_of_getElem? (i := 595) (by decide +kernel), List.mem_of_getElem? (i := 43) (by decide +kernel)⟩
theorem clL_94 : sv_cV RL 94 MX4_count 1 := ⟨⟨ckX4_count.1, ckX4_count.2.1, ckX4_count.2.2.1, ckX4_count.2.2.2, Or.inl (List.mem_of_getElem? (i := 597) (by decide +kernel))⟩, List.mem_of_getElem? (i := 598) (by decide +kernel), List.mem_of_getElem? (i := 599) (by decide +kernel)⟩
theorem clX4_180 : sv_cV RX4 180 MX4_tally 1 := ⟨⟨ckX4_tally.1, ckX4_tally.2.1, ckX4_tally.2.2.1, ckX4_tally.2.2.2, Or.inl (List.mem_of_getElem? (i := 601) (by decide +kernel))⟩, List.mem_of_getElem? (i := 603) (by decide +kernel), List.mem_of_getElem? (i := 44) (by decide +kernel)⟩
theorem clX4_206 : sv_cV RX4 206 MX1_wholeOnes 0 := ⟨⟨ckX1_wholeOnes.1, ckX1_wholeOnes.2.1, ckX1_wholeOnes.2.2.1, ckX1_wholeOnes.2.2.2, Or.inr ⟨"StateVault", List.mem_of_getElem? (i := 605) (by decide +kernel)⟩⟩, List.mem_of_getElem? (i := 607) (by decide +kernel), List.mem_of_getElem? (i := 45) (by decide +kernel)⟩
theorem clX1_70 : sv_cV RX1 70 MX1_followersOf 1 := ⟨⟨ckX1_followersOf.1, ckX1_followersOf.2.1, ckX1_followersOf.2.2.1, ckX1_followersOf.2.2.2, Or.inl (List.mem_of_getElem? (i := 609) (by decide +kernel))⟩, List.mem_of_getElem? (i := 517) (by decide +kernel), List.mem_of_getElem? (i := 36) (by decide +kernel)⟩
theorem clX4_209 : sv_cV RX4 209 MX4_unreadable 0 := ⟨⟨ckX4_unreadable.1, ckX4_unreadable.2.1, ckX4_unreadable.2.2.1, ckX4_unreadable.2.2.2, Or.inl (List.mem_of_getElem? (i := 610) (by decide +kernel))⟩, List.mem_of_getElem? (i := 612) (by decide +kernel), List.mem_of_getElem? (i := 46) (by decide +kernel)⟩
theorem clX4_212 : sv_cV RX4 212 MX1_longestChain 0 := ⟨⟨ckX1_longestChain.1, ckX1_longestChain.2.1, ckX1_longestChain.2.2.1, ckX1_longestChain.2.2.2, Or.inr ⟨"StateVault", List.mem_of_getElem? (i := 614) (by decide +kernel)⟩⟩, List.mem_of_getElem? (i := 616) (by decide +kernel), List.mem_of_getElem? (i := 47) (by decide +kernel)⟩
theorem clX1_61 : sv_cV RX1 61 MX1_linksOf 1 := ⟨⟨ckX1_linksOf.1, ckX1_linksOf.2.1, ckX1_linksOf.2.2.1, ckX1_linksOf.2.2.2, Or.inl (List.mem_of_getElem? (i := 618) (by decide +kernel))⟩, List.mem_of_getElem? (i := 474) (by decide +kernel), List.mem_of_getElem? (i := 28) (by decide +kernel)⟩
theorem clL_98 : sv_cV RL 98 MX4_digest 0 := ⟨⟨ckX4_digest.1, ckX4_digest.2.1, ckX4_digest.2.2.1, ckX4_digest.2.2.2, Or.inl (List.mem_of_getElem? (i := 620) (by decide +kernel))⟩, List.mem_of_getElem? (i := 621) (by decide +kernel), List.mem_of_getElem? (i := 622) (by decide +kernel)⟩
theorem clX4_187 : sv_cV RX4 187 MX4_addPlace 2 := ⟨⟨ckX4_addPlace.1, ckX4_addPlace.2.1, ckX4_addPlace.2.2.1, ckX4_addPlace.2.2.2, Or.inl (List.mem_of_getElem? (i := 626) (by decide +kernel))⟩, List.mem_of_getElem? (i := 628) (by decide +kernel), List.mem_of_getElem? (i := 48) (by decide +kernel)⟩
theorem clL_12 : sv_cI RL 12 MX5_init 0 := ⟨⟨ckX5_init.1, ckX5_init.2.1, ckX5_init.2.2.1, ckX5_init.2.2.2, Or.inl (List.mem_of_getElem? (i := 632) (by decide +kernel))⟩, List.mem_of_getElem? (i := 633) (by decide +kernel), rfl, rfl⟩
theorem clL_61 : sv_cV RL 61 MX5_undo 0 := ⟨⟨ckX5_undo.1, ckX5_undo.2.1, ckX5_undo.2.2.1, ckX5_undo.2.2.2, Or.inl (List.mem_of_getElem? (i := 689) (by decide +kernel))⟩, List.mem_of_getElem? (i := 690) (by decide +kernel), List.mem_of_getElem? (i := 691) (by decide +kernel)⟩
theorem clL_17 : sv_cV RL 17 MX5_type 1 := ⟨⟨ckX5_type.1, ckX5_type.2.1, ckX5_type.2.2.1, ckX5_type.2.2.2, Or.inl (List.mem_of_getElem? (i := 693) (by decide +kernel))⟩, List.mem_of_getElem? (i := 694) (by decide +kernel), List.mem_of_getElem? (i := 695) (by decide +kernel)⟩
theorem clX5_81 : sv_cS RX5 81 MX5_in 3 := ⟨⟨ckX5_in.1, ckX5_in.2.1, ckX5_in.2.2.1, ckX5_in.2.2.2, Or.inl (List.mem_of_getElem? (i := 697) (by decide +kernel))⟩, List.mem_of_getElem? (i := 698) (by decide +kernel)⟩
theorem clL_22 : sv_cV RL 22 MX5_clear 0 := ⟨⟨ckX5_clear.1, ckX5_clear.2.1, ckX5_clear.2.2.1, ckX5_clear.2.2.2, Or.inl (List.mem_of_getElem? (i := 700) (by decide +kernel))⟩, List.mem_of_getElem? (i := 701) (by decide +kernel), List.mem_of_getElem? (i := 702) (by decide +kernel)⟩
theorem clL_26 : sv_cV RL 26 MX5_play 0 := ⟨⟨ckX5_play.1, ckX5_play.2.1, ckX5_play.2.2.1, ckX5_play.2.2.2, Or.inl (List.mem_of_getElem? (i := 704) (by decide +kernel))⟩, List.mem_of_getElem? (i := 705) (by decide +kernel), List.mem_of_getElem? (i := 706) (by decide +kernel)⟩
theorem clX5_134 : sv_cV RX5 134 MX5_readsScript 0 := ⟨⟨ckX5_readsScript.1, ckX5_readsScript.2.1, ckX5_readsScript.2.2.1, ckX5_readsScript.2.2.2, Or.inl (List.mem_of_getElem? (i := 708) (by decide +kernel))⟩, List.mem_of_getElem? (i := 710) (by decide +kernel), List.mem_of_getElem? (i := 49) (by decide +kernel)⟩
theorem clX5_104 : sv_cV RX5 104 MX5_skips 0 := ⟨⟨ckX5_skips.1, ckX5_skips.2.1, ckX5_skips.2.2.1, ckX5_skips.2.2.2, Or.inl (List.mem_of_getElem? (i := 712) (by decide +kernel))⟩, List.mem_of_getElem? (i := 714) (by decide +kernel), List.mem_of_getElem? (i := 50) (by decide +kernel)⟩
theorem clX5_91 : sv_cV RX5 91 MX5_next 0 := ⟨⟨ckX5_next.1, ckX5_next.2.1, ckX5_next.2.2.1, ckX5_next.2.2.2, Or.inl (List.mem_of_getElem? (i := 716) (by decide +kernel))⟩, List.mem_of_getElem? (i := 718) (by decide +kernel), List.mem_of_getElem? (i := 51) (by decide +kernel)⟩
theorem clX5_127 : sv_cV RX5 127 MX5_readsCommand 0 := ⟨⟨ckX5_readsCommand.1, ckX5_readsCommand.2.1, ckX5_readsCommand.2.2.1, ckX5_readsCommand.2.2.2, Or.inl (List.mem_of_getElem? (i := 720) (by decide +kernel))⟩, List.mem_of_getElem? (i := 722) (by decide +kernel), List.mem_of_getElem? (i := 52) (by decide +kernel)⟩
theorem clX5_118 : sv_cV RX5 118 MX5_wordOf 1 := ⟨⟨ckX5_wordOf.1, ckX5_wordOf.2.1, ckX5_wordOf.2.2.1, ckX5_wordOf.2.2.2, Or.inl (List.mem_of_getElem? (i := 724) (by decide +kernel))⟩, List.mem_of_getElem? (i := 726) (by decide +kernel), List.mem_of_getElem? (i := 53) (by decide +kernel)⟩
theorem clX5_111 : sv_cV RX5 111 MX5_isWord 3 := ⟨⟨ckX5_isWord.1, ckX5_isWord.2.1, ckX5_isWord.2.2.1, ckX5_isWord.2.2.2, Or.inl (List.mem_of_getElem? (i := 729) (by decide +kernel))⟩, List.mem_of_getElem? (i := 731) (by decide +kernel), List.mem_of_getElem? (i := 54) (by decide +kernel)⟩
theorem clX5_101 : sv_cV RX5 101 MX5_fails 1 := ⟨⟨ckX5_fails.1, ckX5_fails.2.1, ckX5_fails.2.2.1, ckX5_fails.2.2.2, Or.inl (List.mem_of_getElem? (i := 737) (by decide +kernel))⟩, List.mem_of_getElem? (i := 739) (by decide +kernel), List.mem_of_getElem? (i := 55) (by decide +kernel)⟩
theorem clX5_52 : sv_cS RX5 52 MX5_valuesOf 1 := ⟨⟨ckX5_valuesOf.1, ckX5_valuesOf.2.1, ckX5_valuesOf.2.2.1, ckX5_valuesOf.2.2.2, Or.inl (List.mem_of_getElem? (i := 741) (by decide +kernel))⟩, List.mem_of_getElem? (i := 742) (by decide +kernel)⟩
theorem clX5_107 : sv_cV RX5 107 MX5_number 2 := ⟨⟨ckX5_number.1, ckX5_number.2.1, ckX5_number.2.2.1, ckX5_number.2.2.2, Or.inl (List.mem_of_getElem? (i := 744) (by decide +kernel))⟩, List.mem_of_getElem? (i := 746) (by decide +kernel), List.mem_of_getElem? (i := 56) (by decide +kernel)⟩
theorem clX5_97 : sv_cV RX5 97 MX5_isDigit 0 := ⟨⟨ckX5_isDigit.1, ckX5_isDigit.2.1, ckX5_isDigit.2.2.1, ckX5_isDigit.2.2.2, Or.inl (List.mem_of_getElem? (i := 748) (by decide +kernel))⟩, List.mem_of_getElem? (i := 750) (by decide +kernel), List.mem_of_getElem? (i := 57) (by decide +kernel)⟩
theorem clX5_124 : sv_cV RX5 124 MX5_amount 0 := ⟨⟨ckX5_amount.1, ckX5_amount.2.1, ckX5_amount.2.2.1, ckX5_amount.2.2.2, Or.inl (List.mem_of_getElem? (i := 752) (by decide +kernel))⟩, List.mem_of_getElem? (i := 754) (by decide +kernel), List.mem_of_getElem? (i := 58) (by decide +kernel)⟩
theorem clX5_137 : sv_cV RX5 137 MX5_keeps 0 := ⟨⟨ckX5_keeps.1, ckX5_keeps.2.1, ckX5_keeps.2.2.1, ckX5_keeps.2.2.2, Or.inl (List.mem_of_getElem? (i := 756) (by decide +kernel))⟩, List.mem_of_getElem? (i := 758) (by decide +kernel), List.mem_of_getElem? (i := 59) (by decide +kernel)⟩
theorem clX5_140 : sv_cV RX5 140 MX5_does 1 := ⟨⟨ckX5_does.1, ckX5_does.2.1, ckX5_does.2.2.1, ckX5_does.2.2.2, Or.inl (List.mem_of_getElem? (i := 760) (by decide +kernel))⟩, List.mem_of_getElem? (i := 762) (by decide +kernel), List.mem_of_getElem? (i := 60) (by decide +kernel)⟩
theorem clX5_130 : sv_cV RX5 130 MX5_turns 2 := ⟨⟨ckX5_turns.1, ckX5_turns.2.1, ckX5_turns.2.2.1, ckX5_turns.2.2.2, Or.inl (List.mem_of_getElem? (i := 764) (by decide +kernel))⟩, List.mem_of_getElem? (i := 766) (by decide +kernel), List.mem_of_getElem? (i := 61) (by decide +kernel)⟩
theorem clL_30 : sv_cV RL 30 MX5_raise 0 := ⟨⟨ckX5_raise.1, ckX5_raise.2.1, ckX5_raise.2.2.1, ckX5_raise.2.2.2, Or.inl (List.mem_of_getElem? (i := 768) (by decide +kernel))⟩, List.mem_of_getElem? (i := 769) (by decide +kernel), List.mem_of_getElem? (i := 770) (by decide +kernel)⟩
theorem clX5_143 : sv_cV RX5 143 MX5_takesGame 0 := ⟨⟨ckX5_takesGame.1, ckX5_takesGame.2.1, ckX5_takesGame.2.2.1, ckX5_takesGame.2.2.2, Or.inl (List.mem_of_getElem? (i := 772) (by decide +kernel))⟩, List.mem_of_getElem? (i := 774) (by decide +kernel), List.mem_of_getElem? (i := 62) (by decide +kernel)⟩
theorem clX5_49 : sv_cV RX5 49 MX5_raises 0 := ⟨⟨ckX5_raises.1, ckX5_raises.2.1, ckX5_raises.2.2.1, ckX5_raises.2.2.2, Or.inl (List.mem_of_getElem? (i := 776) (by decide +kernel))⟩, List.mem_of_getElem? (i := 778) (by decide +kernel), List.mem_of_getElem? (i := 63) (by decide +kernel)⟩
theorem clX5_146 : sv_cV RX5 146 MX5_givesGame 0 := ⟨⟨ckX5_givesGame.1, ckX5_givesGame.2.1, ckX5_givesGame.2.2.1, ckX5_givesGame.2.2.2, Or.inl (List.mem_of_getElem? (i := 780) (by decide +kernel))⟩, List.mem_of_getElem? (i := 782) (by decide +kernel), List.mem_of_getElem? (i := 64) (by decide +kernel)⟩
theorem clL_34 : sv_cV RL 34 MX5_keep 0 := ⟨⟨ckX5_keep.1, ckX5_keep.2.1, ckX5_keep.2.2.1, ckX5_keep.2.2.2, Or.inl (List.mem_of_getElem? (i := 784) (by decide +kernel))⟩, List.mem_of_getElem? (i := 785) (by decide +kernel), List.mem_of_getElem? (i := 786) (by decide +kernel)⟩
theorem clX5_73 : sv_cV RX5 73 MX5_sumNow 0 := ⟨⟨ckX5_sumNow.1, ckX5_sumNow.2.1, ckX5_sumNow.2.2.1, ckX5_sumNow.2.2.2, Or.inl (List.mem_of_getElem? (i := 788) (by decide +kernel))⟩, List.mem_of_getElem? (i := 790) (by decide +kernel), List.mem_of_getElem? (i := 65) (by decide +kernel)⟩
theorem clX5_158 : sv_cV RX5 158 MX5_isNear 0 := ⟨⟨ckX5_isNear.1, ckX5_isNear.2.1, ckX5_isNear.2.2.1, ckX5_isNear.2.2.2, Or.inl (List.mem_of_getElem? (i := 792) (by decide +kernel))⟩, List.mem_of_getElem? (i := 794) (by decide +kernel), List.mem_of_getElem? (i := 66) (by decide +kernel)⟩
theorem clX5_149 : sv_cV RX5 149 MX5_setsAside 0 := ⟨⟨ckX5_setsAside.1, ckX5_setsAside.2.1, ckX5_setsAside.2.2.1, ckX5_setsAside.2.2.2, Or.inl (List.mem_of_getElem? (i := 796) (by decide +kernel))⟩, List.mem_of_getElem? (i := 798) (by decide +kernel), List.mem_of_getElem? (i := 67) (by decide +kernel)⟩
theorem clX5_152 : sv_cV RX5 152 MX5_reads 1 := ⟨⟨ckX5_reads.1, ckX5_reads.2.1, ckX5_reads.2.2.1, ckX5_reads.2.2.2, Or.inl (List.mem_of_getElem? (i := 800) (by decide +kernel))⟩, List.mem_of_getElem? (i := 802) (by decide +kernel), List.mem_of_getElem? (i := 68) (by decide +kernel)⟩
theorem clX5_62 : sv_cV RX5 62 MX5_climbs 1 := ⟨⟨ckX5_climbs.1, ckX5_climbs.2.1, ckX5_climbs.2.2.1, ckX5_climbs.2.2.2, Or.inl (List.mem_of_getElem? (i := 804) (by decide +kernel))⟩, List.mem_of_getElem? (i := 806) (by decide +kernel), List.mem_of_getElem? (i := 69) (by decide +kernel)⟩
theorem clX5_59 : sv_cV RX5 59 MX5_slotOf 1 := ⟨⟨ckX5_slotOf.1, ckX5_slotOf.2.1, ckX5_slotOf.2.2.1, ckX5_slotOf.2.2.2, Or.inl (List.mem_of_getElem? (i := 808) (by decide +kernel))⟩, List.mem_of_getElem? (i := 810) (by decide +kernel), List.mem_of_getElem? (i := 70) (by decide +kernel)⟩
theorem clX5_38 : sv_cV RX5 38 MX5_of 2 := ⟨⟨ckX5_of.1, ckX5_of.2.1, ckX5_of.2.2.1, ckX5_of.2.2.2, Or.inl (List.mem_of_getElem? (i := 812) (by decide +kernel))⟩, List.mem_of_getElem? (i := 814) (by decide +kernel), List.mem_of_getElem? (i := 71) (by decide +kernel)⟩
theorem clX5_66 : sv_cV RX5 66 MX5_isWhole 1 := ⟨⟨ckX5_isWhole.1, ckX5_isWhole.2.1, ckX5_isWhole.2.2.1, ckX5_isWhole.2.2.2, Or.inl (List.mem_of_getElem? (i := 816) (by decide +kernel))⟩, List.mem_of_getElem? (i := 818) (by decide +kernel), List.mem_of_getElem? (i := 72) (by decide +kernel)⟩
theorem clX5_70 : sv_cV RX5 70 MX5_raisesTo 1 := ⟨⟨ckX5_raisesTo.1, ckX5_raisesTo.2.1, ckX5_raisesTo.2.2.1, ckX5_raisesTo.2.2.2, Or.inl (List.mem_of_getElem? (i := 820) (by decide +kernel))⟩, List.mem_of_getElem? (i := 822) (by decide +kernel), List.mem_of_getElem? (i := 73) (by decide +kernel)⟩
theorem clX5_155 : sv_cV RX5 155 MX5_differences 1 := ⟨⟨ckX5_differences.1, ckX5_differences.2.1, ckX5_differences.2.2.1, ckX5_differences.2.2.2, Or.inl (List.mem_of_getElem? (i := 824) (by decide +kernel))⟩, List.mem_of_getElem? (i := 826) (by decide +kernel), List.mem_of_getElem? (i := 74) (by decide +kernel)⟩
theorem clX5_77 : sv_cV RX5 77 MX5_put 3 := ⟨⟨ckX5_put.1, ckX5_put.2.1, ckX5_put.2.2.1, ckX5_put.2.2.2, Or.inl (List.mem_of_getElem? (i := 828) (by decide +kernel))⟩, List.mem_of_getElem? (i := 830) (by decide +kernel), List.mem_of_getElem? (i := 75) (by decide +kernel)⟩
theorem clX5_161 : sv_cV RX5 161 MX5_writesDifference 2 := ⟨⟨ckX5_writesDifference.1, ckX5_writesDifference.2.1, ckX5_writesDifference.2.2.1, ckX5_writesDifference.2.2.2, Or.inl (List.mem_of_getElem? (i := 832) (by decide +kernel))⟩, List.mem_of_getElem? (i := 834) (by decide +kernel), List.mem_of_getElem? (i := 76) (by decide +kernel)⟩
theorem clX5_164 : sv_cV RX5 164 MX5_writesWhole 1 := ⟨⟨ckX5_writesWhole.1, ckX5_writesWhole.2.1, ckX5_writesWhole.2.2.1, ckX5_writesWhole.2.2.2, Or.inl (List.mem_of_getElem? (i := 836) (by decide +kernel))⟩, List.mem_of_getElem? (i := 838) (by decide +kernel), List.mem_of_getElem? (i := 77) (by decide +kernel)⟩
theorem clL_38 : sv_cV RL 38 MX5_load 1 := ⟨⟨ckX5_load.1, ckX5_load.2.1, ckX5_load.2.2.1, ckX5_load.2.2.2, Or.inl (List.mem_of_getElem? (i := 840) (by decide +kernel))⟩, List.mem_of_getElem? (i := 841) (by decide +kernel), List.mem_of_getElem? (i := 842) (by decide +kernel)⟩
theorem clL_43 : sv_cV RL 43 MX5_drop 2 := ⟨⟨ckX5_drop.1, ckX5_drop.2.1, ckX5_drop.2.2.1, ckX5_drop.2.2.2, Or.inl (List.mem_of_getElem? (i := 844) (by decide +kernel))⟩, List.mem_of_getElem? (i := 845) (by decide +kernel), List.mem_of_getElem? (i := 846) (by decide +kernel)⟩
theorem clX5_167 : sv_cV RX5 167 MX5_basedOn 1 := ⟨⟨ckX5_basedOn.1, ckX5_basedOn.2.1, ckX5_basedOn.2.2.1, ckX5_basedOn.2.2.2, Or.inl (List.mem_of_getElem? (i := 848) (by decide +kernel))⟩, List.mem_of_getElem? (i := 850) (by decide +kernel), List.mem_of_getElem? (i := 78) (by decide +kernel)⟩
theorem clL_48 : sv_cV RL 48 MX5_alter 3 := ⟨⟨ckX5_alter.1, ckX5_alter.2.1, ckX5_alter.2.2.1, ckX5_alter.2.2.2, Or.inl (List.mem_of_getElem? (i := 852) (by decide +kernel))⟩, List.mem_of_getElem? (i := 853) (by decide +kernel), List.mem_of_getElem? (i := 854) (by decide +kernel)⟩
theorem clL_52 : sv_cV RL 52 MX5_pack 0 := ⟨⟨ckX5_pack.1, ckX5_pack.2.1, ckX5_pack.2.2.1, ckX5_pack.2.2.2, Or.inl (List.mem_of_getElem? (i := 856) (by decide +kernel))⟩, List.mem_of_getElem? (i := 857) (by decide +kernel), List.mem_of_getElem? (i := 858) (by decide +kernel)⟩
theorem clX5_176 : sv_cV RX5 176 MX5_weights 0 := ⟨⟨ckX5_weights.1, ckX5_weights.2.1, ckX5_weights.2.2.1, ckX5_weights.2.2.2, Or.inl (List.mem_of_getElem? (i := 860) (by decide +kernel))⟩, List.mem_of_getElem? (i := 862) (by decide +kernel), List.mem_of_getElem? (i := 79) (by decide +kernel)⟩
theorem clX5_170 : sv_cV RX5 170 MX5_weight 1 := ⟨⟨ckX5_weight.1, ckX5_weight.2.1, ckX5_weight.2.2.1, ckX5_weight.2.2.2, Or.inl (List.mem_of_getElem? (i := 864) (by decide +kernel))⟩, List.mem_of_getElem? (i := 866) (by decide +kernel), List.mem_of_getElem? (i := 80) (by decide +kernel)⟩
theorem clX5_179 : sv_cV RX5 179 MX5_nearestBase 1 := ⟨⟨ckX5_nearestBase.1, ckX5_nearestBase.2.1, ckX5_nearestBase.2.2.1, ckX5_nearestBase.2.2.2, Or.inl (List.mem_of_getElem? (i := 868) (by decide +kernel))⟩, List.mem_of_getElem? (i := 870) (by decide +kernel), List.mem_of_getElem? (i := 81) (by decide +kernel)⟩
theorem clX5_173 : sv_cV RX5 173 MX5_linksOf 1 := ⟨⟨ckX5_linksOf.1, ckX5_linksOf.2.1, ckX5_linksOf.2.2.1, ckX5_linksOf.2.2.2, Or.inl (List.mem_of_getElem? (i := 872) (by decide +kernel))⟩, List.mem_of_getElem? (i := 874) (by decide +kernel), List.mem_of_getElem? (i := 82) (by decide +kernel)⟩
theorem clL_57 : sv_cV RL 57 MX5_set 2 := ⟨⟨ckX5_set.1, ckX5_set.2.1, ckX5_set.2.2.1, ckX5_set.2.2.2, Or.inl (List.mem_of_getElem? (i := 876) (by decide +kernel))⟩, List.mem_of_getElem? (i := 877) (by decide +kernel), List.mem_of_getElem? (i := 878) (by decide +kernel)⟩
theorem clL_65 : sv_cV RL 65 MX5_value 1 := ⟨⟨ckX5_value.1, ckX5_value.2.1, ckX5_value.2.2.1, ckX5_value.2.2.2, Or.inl (List.mem_of_getElem? (i := 880) (by decide +kernel))⟩, List.mem_of_getElem? (i := 881) (by decide +kernel), List.mem_of_getElem? (i := 882) (by decide +kernel)⟩
theorem clL_69 : sv_cV RL 69 MX5_kept 2 := ⟨⟨ckX5_kept.1, ckX5_kept.2.1, ckX5_kept.2.2.1, ckX5_kept.2.2.2, Or.inl (List.mem_of_getElem? (i := 884) (by decide +kernel))⟩, List.mem_of_getElem? (i := 885) (by decide +kernel), List.mem_of_getElem? (i := 886) (by decide +kernel)⟩
theorem clX5_182 : sv_cV RX5 182 MX5_part 2 := ⟨⟨ckX5_part.1, ckX5_part.2.1, ckX5_part.2.2.1, ckX5_part.2.2.2, Or.inl (List.mem_of_getElem? (i := 888) (by decide +kernel))⟩, List.mem_of_getElem? (i := 890) (by decide +kernel), List.mem_of_getElem? (i := 83) (by decide +kernel)⟩
theorem clL_73 : sv_cV RL 73 MX5_entry 3 := ⟨⟨ckX5_entry.1, ckX5_entry.2.1, ckX5_entry.2.2.1, ckX5_entry.2.2.2, Or.inl (List.mem_of_getElem? (i := 892) (by decide +kernel))⟩, List.mem_of_getElem? (i := 893) (by decide +kernel), List.mem_of_getElem? (i := 894) (by decide +kernel)⟩
theorem clL_77 : sv_cV RL 77 MX5_read 3 := ⟨⟨ckX5_read.1, ckX5_read.2.1, ckX5_read.2.2.1, ckX5_read.2.2.2, Or.inl (List.mem_of_getElem? (i := 896) (by decide +kernel))⟩, List.mem_of_getElem? (i := 897) (by decide +kernel), List.mem_of_getElem? (i := 898) (by decide +kernel)⟩
theorem clL_81 : sv_cV RL 81 MX5_cause 3 := ⟨⟨ckX5_cause.1, ckX5_cause.2.1, ckX5_cause.2.2.1, ckX5_cause.2.2.2, Or.inl (List.mem_of_getElem? (i := 900) (by decide +kernel))⟩, List.mem_of_getElem? (i := 901) (by decide +kernel), List.mem_of_getElem? (i := 902) (by decide +kernel)⟩
theorem clL_85 : sv_cV RL 85 MX5_apart 2 := ⟨⟨ckX5_apart.1, ckX5_apart.2.1, ckX5_apart.2.2.1, ckX5_apart.2.2.2, Or.inl (List.mem_of_getElem? (i := 904) (by decide +kernel))⟩, List.mem_of_getElem? (i := 905) (by decide +kernel), List.mem_of_getElem? (i := 906) (by decide +kernel)⟩
theorem clL_89 : sv_cV RL 89 MX5_fork 2 := ⟨⟨ckX5_fork.1, ckX5_fork.2.1, ckX5_fork.2.2.1, ckX5_fork.2.2.2, Or.inl (List.mem_of_getElem? (i := 908) (by decide +kernel))⟩, List.mem_of_getElem? (i := 909) (by decide +kernel), List.mem_of_getElem? (i := 910) (by decide +kernel)⟩
theorem clX5_185 : sv_cV RX5 185 MX5_isInChain 1 := ⟨⟨ckX5_isInChain.1, ckX5_isInChain.2.1, ckX5_isInChain.2.2.1, ckX5_isInChain.2.2.2, Or.inl (List.mem_of_getElem? (i := 912) (by decide +kernel))⟩, List.mem_of_getElem? (i := 914) (by decide +kernel), List.mem_of_getElem? (i := 84) (by decide +kernel)⟩
theorem clL_93 : sv_cV RL 93 MX5_nearest 0 := ⟨⟨ckX5_nearest.1, ckX5_nearest.2.1, ckX5_nearest.2.2.1, ckX5_nearest.2.2.2, Or.inl (List.mem_of_getElem? (i := 916) (by decide +kernel))⟩, List.mem_of_getElem? (i := 917) (by decide +kernel), List.mem_of_getElem? (i := 918) (by decide +kernel)⟩
theorem clL_97 : sv_cV RL 97 MX5_count 1 := ⟨⟨ckX5_count.1, ckX5_count.2.1, ckX5_count.2.2.1, ckX5_count.2.2.2, Or.inl (List.mem_of_getElem? (i := 920) (by decide +kernel))⟩, List.mem_of_getElem? (i := 921) (by decide +kernel), List.mem_of_getElem? (i := 922) (by decide +kernel)⟩
theorem clX5_188 : sv_cV RX5 188 MX5_counts 1 := ⟨⟨ckX5_counts.1, ckX5_counts.2.1, ckX5_counts.2.2.1, ckX5_counts.2.2.2, Or.inl (List.mem_of_getElem? (i := 924) (by decide +kernel))⟩, List.mem_of_getElem? (i := 926) (by decide +kernel), List.mem_of_getElem? (i := 85) (by decide +kernel)⟩
theorem clX5_191 : sv_cV RX5 191 MX5_longest 0 := ⟨⟨ckX5_longest.1, ckX5_longest.2.1, ckX5_longest.2.2.1, ckX5_longest.2.2.2, Or.inl (List.mem_of_getElem? (i := 928) (by decide +kernel))⟩, List.mem_of_getElem? (i := 930) (by decide +kernel), List.mem_of_getElem? (i := 86) (by decide +kernel)⟩
theorem clL_102 : sv_cV RL 102 MX5_digest 0 := ⟨⟨ckX5_digest.1, ckX5_digest.2.1, ckX5_digest.2.2.1, ckX5_digest.2.2.2, Or.inl (List.mem_of_getElem? (i := 932) (by decide +kernel))⟩, List.mem_of_getElem? (i := 933) (by decide +kernel), List.mem_of_getElem? (i := 934) (by decide +kernel)⟩
theorem clX5_210 : sv_cV RX5 210 MX5_count 1 := ⟨⟨ckX5_count.1, ckX5_count.2.1, ckX5_count.2.2.1, ckX5_count.2.2.2, Or.inl (List.mem_of_getElem? (i := 937) (by decide +kernel))⟩, List.mem_of_getElem? (i := 921) (by decide +kernel), List.mem_of_getElem? (i := 922) (by decide +kernel)⟩
theorem clX5_200 : sv_cV RX5 200 MX5_mixes 1 := ⟨⟨ckX5_mixes.1, ckX5_mixes.2.1, ckX5_mixes.2.2.1, ckX5_mixes.2.2.2, Or.inl (List.mem_of_getElem? (i := 938) (by decide +kernel))⟩, List.mem_of_getElem? (i := 940) (by decide +kernel), List.mem_of_getElem? (i := 87) (by decide +kernel)⟩
theorem clX5_213 : sv_cV RX5 213 MX5_mixesKept 1 := ⟨⟨ckX5_mixesKept.1, ckX5_mixesKept.2.1, ckX5_mixesKept.2.2.1, ckX5_mixesKept.2.2.2, Or.inl (List.mem_of_getElem? (i := 943) (by decide +kernel))⟩, List.mem_of_getElem? (i := 945) (by decide +kernel), List.mem_of_getElem? (i := 88) (by decide +kernel)⟩
theorem clX5_204 : sv_cV RX5 204 MX5_cause 3 := ⟨⟨ckX5_cause.1, ckX5_cause.2.1, ckX5_cause.2.2.1, ckX5_cause.2.2.2, Or.inl (List.mem_of_getElem? (i := 947) (by decide +kernel))⟩, List.mem_of_getElem? (i := 901) (by decide +kernel), List.mem_of_getElem? (i := 902) (by decide +kernel)⟩
theorem clX5_216 : sv_cV RX5 216 MX5_nearest 0 := ⟨⟨ckX5_nearest.1, ckX5_nearest.2.1, ckX5_nearest.2.2.1, ckX5_nearest.2.2.2, Or.inl (List.mem_of_getElem? (i := 948) (by decide +kernel))⟩, List.mem_of_getElem? (i := 917) (by decide +kernel), List.mem_of_getElem? (i := 918) (by decide +kernel)⟩
end
section
theorem dX0_init_0 : decode cX0_init 0 = .ok (.aload_n 0, 1) := by decide +kernel
theorem dX0_init_1 : decode cX0_init 1 = .ok (.invokespecial 3, 3) := by decide +kernel
theorem dX0_init_4 : decode cX0_init 4 = .ok (.aload_n 0, 1) := by decide +kernel
theorem dX0_init_5 : decode cX0_init 5 = .ok (.iconst 0, 1) := by decide +kernel
theorem dX0_init_6 : decode cX0_init 6 = .ok (.putfield 9, 3) := by decide +kernel
theorem dX0_init_9 : decode cX0_init 9 = .ok (.aload_n 0, 1) := by decide +kernel
theorem dX0_init_10 : decode cX0_init 10 = .ok (.iconst 1, 1) := by decide +kernel
theorem dX0_init_11 : decode cX0_init 11 = .ok (.putfield 15, 3) := by decide +kernel
theorem dX0_init_14 : decode cX0_init 14 = .ok (.aload_n 0, 1) := by decide +kernel
theorem dX0_init_15 : decode cX0_init 15 = .ok (.iconst 0, 1) := by decide +kernel
theorem dX0_init_16 : decode cX0_init 16 = .ok (.putfield 18, 3) := by decide +kernel
theorem dX0_init_19 : decode cX0_init 19 = .ok (.aload_n 0, 1) := by decide +kernel
theorem dX0_init_20 : decode cX0_init 20 = .ok (.iconst (-1), 1) := by decide +kernel
theorem dX0_init_21 : decode cX0_init 21 = .ok (.putfield 21, 3) := by decide +kernel
theorem dX0_init_24 : decode cX0_init 24 = .ok (.aload_n 0, 1) := by decide +kernel
theorem dX0_init_25 : decode cX0_init 25 = .ok (.iconst 0, 1) := by decide +kernel
theorem dX0_init_26 : decode cX0_init 26 = .ok (.putfield 24, 3) := by decide +kernel
theorem dX0_init_29 : decode cX0_init 29 = .ok (.aload_n 0, 1) := by decide +kernel
theorem dX0_init_30 : decode cX0_init 30 = .ok (.bipush 12, 2) := by decide +kernel
theorem dX0_init_32 : decode cX0_init 32 = .ok (.newarray .int, 2) := by decide +kernel
theorem dX0_init_34 : decode cX0_init 34 = .ok (.putfield 27, 3) := by decide +kernel
theorem dX0_init_37 : decode cX0_init 37 = .ok (.aload_n 0, 1) := by decide +kernel
theorem dX0_init_38 : decode cX0_init 38 = .ok (.bipush 12, 2) := by decide +kernel
theorem dX0_init_40 : decode cX0_init 40 = .ok (.newarray .int, 2) := by decide +kernel
theorem dX0_init_42 : decode cX0_init 42 = .ok (.putfield 31, 3) := by decide +kernel
theorem dX0_init_45 : decode cX0_init 45 = .ok (.return_, 1) := by decide +kernel
theorem dX0_copyKept_0 : decode cX0_copyKept 0 = .ok (.aload_n 0, 1) := by decide +kernel
theorem dX0_copyKept_1 : decode cX0_copyKept 1 = .ok (.aload_n 1, 1) := by decide +kernel
theorem dX0_copyKept_2 : decode cX0_copyKept 2 = .ok (.getfield 9, 3) := by decide +kernel
theorem dX0_copyKept_5 : decode cX0_copyKept 5 = .ok (.putfield 9, 3) := by decide +kernel
theorem dX0_copyKept_8 : decode cX0_copyKept 8 = .ok (.aload_n 0, 1) := by decide +kernel
theorem dX0_copyKept_9 : decode cX0_copyKept 9 = .ok (.aload_n 1, 1) := by decide +kernel
theorem dX0_copyKept_10 : decode cX0_copyKept 10 = .ok (.getfield 15, 3) := by decide +kernel
theorem dX0_copyKept_13 : decode cX0_copyKept 13 = .ok (.putfield 15, 3) := by decide +kernel
theorem dX0_copyKept_16 : decode cX0_copyKept 16 = .ok (.aload_n 0, 1) := by decide +kernel
theorem dX0_copyKept_17 : decode cX0_copyKept 17 = .ok (.aload_n 1, 1) := by decide +kernel
theorem dX0_copyKept_18 : decode cX0_copyKept 18 = .ok (.getfield 18, 3) := by decide +kernel
theorem dX0_copyKept_21 : decode cX0_copyKept 21 = .ok (.putfield 18, 3) := by decide +kernel
theorem dX0_copyKept_24 : decode cX0_copyKept 24 = .ok (.aload_n 0, 1) := by decide +kernel
theorem dX0_copyKept_25 : decode cX0_copyKept 25 = .ok (.aload_n 1, 1) := by decide +kernel
theorem dX0_copyKept_26 : decode cX0_copyKept 26 = .ok (.getfield 21, 3) := by decide +kernel
theorem dX0_copyKept_29 : decode cX0_copyKept 29 = .ok (.putfield 21, 3) := by decide +kernel
theorem dX0_copyKept_32 : decode cX0_copyKept 32 = .ok (.aload_n 0, 1) := by decide +kernel
theorem dX0_copyKept_33 : decode cX0_copyKept 33 = .ok (.aload_n 1, 1) := by decide +kernel
theorem dX0_copyKept_34 : decode cX0_copyKept 34 = .ok (.getfield 24, 3) := by decide +kernel
theorem dX0_copyKept_37 : decode cX0_copyKept 37 = .ok (.putfield 24, 3) := by decide +kernel
theorem dX0_copyKept_40 : decode cX0_copyKept 40 = .ok (.aload_n 1, 1) := by decide +kernel
theorem dX0_copyKept_41 : decode cX0_copyKept 41 = .ok (.getfield 27, 3) := by decide +kernel
theorem dX0_copyKept_44 : decode cX0_copyKept 44 = .ok (.iconst 0, 1) := by decide +kernel
theorem dX0_copyKept_45 : decode cX0_copyKept 45 = .ok (.aload_n 0, 1) := by decide +kernel
theorem dX0_copyKept_46 : decode cX0_copyKept 46 = .ok (.getfield 27, 3) := by decide +kernel
theorem dX0_copyKept_49 : decode cX0_copyKept 49 = .ok (.iconst 0, 1) := by decide +kernel
theorem dX0_copyKept_50 : decode cX0_copyKept 50 = .ok (.bipush 12, 2) := by decide +kernel
theorem dX0_copyKept_52 : decode cX0_copyKept 52 = .ok (.invokestatic 34, 3) := by decide +kernel
theorem dX0_copyKept_55 : decode cX0_copyKept 55 = .ok (.aload_n 1, 1) := by decide +kernel
theorem dX0_copyKept_56 : decode cX0_copyKept 56 = .ok (.getfield 31, 3) := by decide +kernel
theorem dX0_copyKept_59 : decode cX0_copyKept 59 = .ok (.iconst 0, 1) := by decide +kernel
theorem dX0_copyKept_60 : decode cX0_copyKept 60 = .ok (.aload_n 0, 1) := by decide +kernel
theorem dX0_copyKept_61 : decode cX0_copyKept 61 = .ok (.getfield 31, 3) := by decide +kernel
theorem dX0_copyKept_64 : decode cX0_copyKept 64 = .ok (.iconst 0, 1) := by decide +kernel
theorem dX0_copyKept_65 : decode cX0_copyKept 65 = .ok (.bipush 12, 2) := by decide +kernel
theorem dX0_copyKept_67 : decode cX0_copyKept 67 = .ok (.invokestatic 34, 3) := by decide +kernel
theorem dX0_copyKept_70 : decode cX0_copyKept 70 = .ok (.return_, 1) := by decide +kernel
theorem dX0_makeWhole_0 : decode cX0_makeWhole 0 = .ok (.aload_n 0, 1) := by decide +kernel
theorem dX0_makeWhole_1 : decode cX0_makeWhole 1 = .ok (.iconst (-1), 1) := by decide +kernel
theorem dX0_makeWhole_2 : decode cX0_makeWhole 2 = .ok (.putfield 21, 3) := by decide +kernel
theorem dX0_makeWhole_5 : decode cX0_makeWhole 5 = .ok (.aload_n 0, 1) := by decide +kernel
theorem dX0_makeWhole_6 : decode cX0_makeWhole 6 = .ok (.aload_n 0, 1) := by decide +kernel
theorem dX0_makeWhole_7 : decode cX0_makeWhole 7 = .ok (.getfield 15, 3) := by decide +kernel
theorem dX0_makeWhole_10 : decode cX0_makeWhole 10 = .ok (.invokestatic 40, 3) := by decide +kernel
theorem dX0_makeWhole_13 : decode cX0_makeWhole 13 = .ok (.putfield 24, 3) := by decide +kernel
theorem dX0_makeWhole_16 : decode cX0_makeWhole 16 = .ok (.iconst 0, 1) := by decide +kernel
theorem dX0_makeWhole_17 : decode cX0_makeWhole 17 = .ok (.istore_n 2, 1) := by decide +kernel
theorem dX0_makeWhole_18 : decode cX0_makeWhole 18 = .ok (.iload_n 2, 1) := by decide +kernel
theorem dX0_makeWhole_19 : decode cX0_makeWhole 19 = .ok (.aload_n 0, 1) := by decide +kernel
theorem dX0_makeWhole_20 : decode cX0_makeWhole 20 = .ok (.getfield 24, 3) := by decide +kernel
theorem dX0_makeWhole_23 : decode cX0_makeWhole 23 = .ok (.if_icmp .ge 25, 3) := by decide +kernel
theorem dX0_makeWhole_26 : decode cX0_makeWhole 26 = .ok (.aload_n 0, 1) := by decide +kernel
theorem dX0_makeWhole_27 : decode cX0_makeWhole 27 = .ok (.getfield 27, 3) := by decide +kernel
theorem dX0_makeWhole_30 : decode cX0_makeWhole 30 = .ok (.iload_n 2, 1) := by decide +kernel
theorem dX0_makeWhole_31 : decode cX0_makeWhole 31 = .ok (.iload_n 2, 1) := by decide +kernel
theorem dX0_makeWhole_32 : decode cX0_makeWhole 32 = .ok (.iastore, 1) := by decide +kernel
theorem dX0_makeWhole_33 : decode cX0_makeWhole 33 = .ok (.aload_n 0, 1) := by decide +kernel
theorem dX0_makeWhole_34 : decode cX0_makeWhole 34 = .ok (.getfield 31, 3) := by decide +kernel
theorem dX0_makeWhole_37 : decode cX0_makeWhole 37 = .ok (.iload_n 2, 1) := by decide +kernel
theorem dX0_makeWhole_38 : decode cX0_makeWhole 38 = .ok (.aload_n 1, 1) := by decide +kernel
theorem dX0_makeWhole_39 : decode cX0_makeWhole 39 = .ok (.iload_n 2, 1) := by decide +kernel
theorem dX0_makeWhole_40 : decode cX0_makeWhole 40 = .ok (.iaload, 1) := by decide +kernel
theorem dX0_makeWhole_41 : decode cX0_makeWhole 41 = .ok (.iastore, 1) := by decide +kernel
theorem dX0_makeWhole_42 : decode cX0_makeWhole 42 = .ok (.iinc 2 1, 3) := by decide +kernel
theorem dX0_makeWhole_45 : decode cX0_makeWhole 45 = .ok (.goto (-27), 3) := by decide +kernel
theorem dX0_makeWhole_48 : decode cX0_makeWhole 48 = .ok (.return_, 1) := by decide +kernel
theorem dX0_makeDifference_0 : decode cX0_makeDifference 0 = .ok (.aload_n 0, 1) := by decide +kernel
theorem dX0_makeDifference_1 : decode cX0_makeDifference 1 = .ok (.iload_n 1, 1) := by decide +kernel
theorem dX0_makeDifference_2 : decode cX0_makeDifference 2 = .ok (.putfield 21, 3) := by decide +kernel
theorem dX0_makeDifference_5 : decode cX0_makeDifference 5 = .ok (.aload_n 0, 1) := by decide +kernel
theorem dX0_makeDifference_6 : decode cX0_makeDifference 6 = .ok (.iconst 0, 1) := by decide +kernel
theorem dX0_makeDifference_7 : decode cX0_makeDifference 7 = .ok (.putfield 24, 3) := by decide +kernel
theorem dX0_makeDifference_10 : decode cX0_makeDifference 10 = .ok (.iconst 0, 1) := by decide +kernel
theorem dX0_makeDifference_11 : decode cX0_makeDifference 11 = .ok (.istore 4, 2) := by decide +kernel
theorem dX0_makeDifference_13 : decode cX0_makeDifference 13 = .ok (.iload 4, 2) := by decide +kernel
theorem dX0_makeDifference_15 : decode cX0_makeDifference 15 = .ok (.aload_n 0, 1) := by decide +kernel
theorem dX0_makeDifference_16 : decode cX0_makeDifference 16 = .ok (.getfield 15, 3) := by decide +kernel
theorem dX0_makeDifference_19 : decode cX0_makeDifference 19 = .ok (.invokestatic 40, 3) := by decide +kernel
theorem dX0_makeDifference_22 : decode cX0_makeDifference 22 = .ok (.if_icmp .ge 54, 3) := by decide +kernel
theorem dX0_makeDifference_25 : decode cX0_makeDifference 25 = .ok (.aload_n 3, 1) := by decide +kernel
theorem dX0_makeDifference_26 : decode cX0_makeDifference 26 = .ok (.iload 4, 2) := by decide +kernel
theorem dX0_makeDifference_28 : decode cX0_makeDifference 28 = .ok (.iaload, 1) := by decide +kernel
theorem dX0_makeDifference_29 : decode cX0_makeDifference 29 = .ok (.aload_n 2, 1) := by decide +kernel
theorem dX0_makeDifference_30 : decode cX0_makeDifference 30 = .ok (.iload 4, 2) := by decide +kernel
theorem dX0_makeDifference_32 : decode cX0_makeDifference 32 = .ok (.iaload, 1) := by decide +kernel
theorem dX0_makeDifference_33 : decode cX0_makeDifference 33 = .ok (.if_icmp .eq 37, 3) := by decide +kernel
theorem dX0_makeDifference_36 : decode cX0_makeDifference 36 = .ok (.aload_n 0, 1) := by decide +kernel
theorem dX0_makeDifference_37 : decode cX0_makeDifference 37 = .ok (.getfield 27, 3) := by decide +kernel
theorem dX0_makeDifference_40 : decode cX0_makeDifference 40 = .ok (.aload_n 0, 1) := by decide +kernel
theorem dX0_makeDifference_41 : decode cX0_makeDifference 41 = .ok (.getfield 24, 3) := by decide +kernel
theorem dX0_makeDifference_44 : decode cX0_makeDifference 44 = .ok (.iload 4, 2) := by decide +kernel
theorem dX0_makeDifference_46 : decode cX0_makeDifference 46 = .ok (.iastore, 1) := by decide +kernel
theorem dX0_makeDifference_47 : decode cX0_makeDifference 47 = .ok (.aload_n 0, 1) := by decide +kernel
theorem dX0_makeDifference_48 : decode cX0_makeDifference 48 = .ok (.getfield 31, 3) := by decide +kernel
theorem dX0_makeDifference_51 : decode cX0_makeDifference 51 = .ok (.aload_n 0, 1) := by decide +kernel
theorem dX0_makeDifference_52 : decode cX0_makeDifference 52 = .ok (.getfield 24, 3) := by decide +kernel
theorem dX0_makeDifference_55 : decode cX0_makeDifference 55 = .ok (.aload_n 3, 1) := by decide +kernel
theorem dX0_makeDifference_56 : decode cX0_makeDifference 56 = .ok (.iload 4, 2) := by decide +kernel
theorem dX0_makeDifference_58 : decode cX0_makeDifference 58 = .ok (.iaload, 1) := by decide +kernel
theorem dX0_makeDifference_59 : decode cX0_makeDifference 59 = .ok (.iastore, 1) := by decide +kernel
theorem dX0_makeDifference_60 : decode cX0_makeDifference 60 = .ok (.aload_n 0, 1) := by decide +kernel
theorem dX0_makeDifference_61 : decode cX0_makeDifference 61 = .ok (.dup, 1) := by decide +kernel
theorem dX0_makeDifference_62 : decode cX0_makeDifference 62 = .ok (.getfield 24, 3) := by decide +kernel
theorem dX0_makeDifference_65 : decode cX0_makeDifference 65 = .ok (.iconst 1, 1) := by decide +kernel
theorem dX0_makeDifference_66 : decode cX0_makeDifference 66 = .ok (.iadd, 1) := by decide +kernel
theorem dX0_makeDifference_67 : decode cX0_makeDifference 67 = .ok (.putfield 24, 3) := by decide +kernel
theorem dX0_makeDifference_70 : decode cX0_makeDifference 70 = .ok (.iinc 4 1, 3) := by decide +kernel
theorem dX0_makeDifference_73 : decode cX0_makeDifference 73 = .ok (.goto (-60), 3) := by decide +kernel
theorem dX0_makeDifference_76 : decode cX0_makeDifference 76 = .ok (.return_, 1) := by decide +kernel
theorem dX0_weight_0 : decode cX0_weight 0 = .ok (.aload_n 0, 1) := by decide +kernel
theorem dX0_weight_1 : decode cX0_weight 1 = .ok (.getfield 21, 3) := by decide +kernel
theorem dX0_weight_4 : decode cX0_weight 4 = .ok (.iconst (-1), 1) := by decide +kernel
theorem dX0_weight_5 : decode cX0_weight 5 = .ok (.if_icmp .ne 10, 3) := by decide +kernel
theorem dX0_weight_8 : decode cX0_weight 8 = .ok (.aload_n 0, 1) := by decide +kernel
theorem dX0_weight_9 : decode cX0_weight 9 = .ok (.getfield 24, 3) := by decide +kernel
theorem dX0_weight_12 : decode cX0_weight 12 = .ok (.goto 11, 3) := by decide +kernel
theorem dX0_weight_15 : decode cX0_weight 15 = .ok (.iconst 2, 1) := by decide +kernel
theorem dX0_weight_16 : decode cX0_weight 16 = .ok (.iconst 2, 1) := by decide +kernel
theorem dX0_weight_17 : decode cX0_weight 17 = .ok (.aload_n 0, 1) := by decide +kernel
theorem dX0_weight_18 : decode cX0_weight 18 = .ok (.getfield 24, 3) := by decide +kernel
theorem dX0_weight_21 : decode cX0_weight 21 = .ok (.imul, 1) := by decide +kernel
theorem dX0_weight_22 : decode cX0_weight 22 = .ok (.iadd, 1) := by decide +kernel
theorem dX0_weight_23 : decode cX0_weight 23 = .ok (.ireturn, 1) := by decide +kernel
theorem dX1_init_0 : decode cX1_init 0 = .ok (.aload_n 0, 1) := by decide +kernel
theorem dX1_init_1 : decode cX1_init 1 = .ok (.invokespecial 3, 3) := by decide +kernel
theorem dX1_init_4 : decode cX1_init 4 = .ok (.aload_n 0, 1) := by decide +kernel
theorem dX1_init_5 : decode cX1_init 5 = .ok (.iconst 1, 1) := by decide +kernel
theorem dX1_init_6 : decode cX1_init 6 = .ok (.putfield 9, 3) := by decide +kernel
theorem dX1_init_9 : decode cX1_init 9 = .ok (.aload_n 0, 1) := by decide +kernel
theorem dX1_init_10 : decode cX1_init 10 = .ok (.iconst (-1), 1) := by decide +kernel
theorem dX1_init_11 : decode cX1_init 11 = .ok (.putfield 15, 3) := by decide +kernel
theorem dX1_init_14 : decode cX1_init 14 = .ok (.aload_n 0, 1) := by decide +kernel
theorem dX1_init_15 : decode cX1_init 15 = .ok (.iconst 0, 1) := by decide +kernel
theorem dX1_init_16 : decode cX1_init 16 = .ok (.putfield 18, 3) := by decide +kernel
theorem dX1_init_19 : decode cX1_init 19 = .ok (.aload_n 0, 1) := by decide +kernel
theorem dX1_init_20 : decode cX1_init 20 = .ok (.iconst 0, 1) := by decide +kernel
theorem dX1_init_21 : decode cX1_init 21 = .ok (.putfield 21, 3) := by decide +kernel
theorem dX1_init_24 : decode cX1_init 24 = .ok (.aload_n 0, 1) := by decide +kernel
theorem dX1_init_25 : decode cX1_init 25 = .ok (.bipush 12, 2) := by decide +kernel
theorem dX1_init_27 : decode cX1_init 27 = .ok (.newarray .int, 2) := by decide +kernel
theorem dX1_init_29 : decode cX1_init 29 = .ok (.putfield 24, 3) := by decide +kernel
theorem dX1_init_32 : decode cX1_init 32 = .ok (.aload_n 0, 1) := by decide +kernel
theorem dX1_init_33 : decode cX1_init 33 = .ok (.iconst 2, 1) := by decide +kernel
theorem dX1_init_34 : decode cX1_init 34 = .ok (.newarray .int, 2) := by decide +kernel
theorem dX1_init_36 : decode cX1_init 36 = .ok (.putfield 28, 3) := by decide +kernel
theorem dX1_init_39 : decode cX1_init 39 = .ok (.aload_n 0, 1) := by decide +kernel
theorem dX1_init_40 : decode cX1_init 40 = .ok (.bipush 20, 2) := by decide +kernel
theorem dX1_init_42 : decode cX1_init 42 = .ok (.anewarray 31, 3) := by decide +kernel
theorem dX1_init_45 : decode cX1_init 45 = .ok (.putfield 33, 3) := by decide +kernel
theorem dX1_init_48 : decode cX1_init 48 = .ok (.aload_n 0, 1) := by decide +kernel
theorem dX1_init_49 : decode cX1_init 49 = .ok (.getfield 28, 3) := by decide +kernel
theorem dX1_init_52 : decode cX1_init 52 = .ok (.iconst 0, 1) := by decide +kernel
theorem dX1_init_53 : decode cX1_init 53 = .ok (.iconst 4, 1) := by decide +kernel
theorem dX1_init_54 : decode cX1_init 54 = .ok (.iastore, 1) := by decide +kernel
theorem dX1_init_55 : decode cX1_init 55 = .ok (.aload_n 0, 1) := by decide +kernel
theorem dX1_init_56 : decode cX1_init 56 = .ok (.getfield 28, 3) := by decide +kernel
theorem dX1_init_59 : decode cX1_init 59 = .ok (.iconst 1, 1) := by decide +kernel
theorem dX1_init_60 : decode cX1_init 60 = .ok (.iconst 1, 1) := by decide +kernel
theorem dX1_init_61 : decode cX1_init 61 = .ok (.iastore, 1) := by decide +kernel
theorem dX1_init_62 : decode cX1_init 62 = .ok (.iconst 0, 1) := by decide +kernel
theorem dX1_init_63 : decode cX1_init 63 = .ok (.istore_n 1, 1) := by decide +kernel
theorem dX1_init_64 : decode cX1_init 64 = .ok (.iload_n 1, 1) := by decide +kernel
theorem dX1_init_65 : decode cX1_init 65 = .ok (.bipush 20, 2) := by decide +kernel
theorem dX1_init_67 : decode cX1_init 67 = .ok (.if_icmp .ge 22, 3) := by decide +kernel
theorem dX1_init_70 : decode cX1_init 70 = .ok (.aload_n 0, 1) := by decide +kernel
theorem dX1_init_71 : decode cX1_init 71 = .ok (.getfield 33, 3) := by decide +kernel
theorem dX1_init_74 : decode cX1_init 74 = .ok (.iload_n 1, 1) := by decide +kernel
theorem dX1_init_75 : decode cX1_init 75 = .ok (.new 31, 3) := by decide +kernel
theorem dX1_init_78 : decode cX1_init 78 = .ok (.dup, 1) := by decide +kernel
theorem dX1_init_79 : decode cX1_init 79 = .ok (.invokespecial 37, 3) := by decide +kernel
theorem dX1_init_82 : decode cX1_init 82 = .ok (.aastore, 1) := by decide +kernel
theorem dX1_init_83 : decode cX1_init 83 = .ok (.iinc 1 1, 3) := by decide +kernel
theorem dX1_init_86 : decode cX1_init 86 = .ok (.goto (-22), 3) := by decide +kernel
theorem dX1_init_89 : decode cX1_init 89 = .ok (.return_, 1) := by decide +kernel
theorem dX1_copyFrom_0 : decode cX1_copyFrom 0 = .ok (.aload_n 0, 1) := by decide +kernel
theorem dX1_copyFrom_1 : decode cX1_copyFrom 1 = .ok (.aload_n 1, 1) := by decide +kernel
theorem dX1_copyFrom_2 : decode cX1_copyFrom 2 = .ok (.getfield 9, 3) := by decide +kernel
theorem dX1_copyFrom_5 : decode cX1_copyFrom 5 = .ok (.putfield 9, 3) := by decide +kernel
theorem dX1_copyFrom_8 : decode cX1_copyFrom 8 = .ok (.aload_n 0, 1) := by decide +kernel
theorem dX1_copyFrom_9 : decode cX1_copyFrom 9 = .ok (.aload_n 1, 1) := by decide +kernel
theorem dX1_copyFrom_10 : decode cX1_copyFrom 10 = .ok (.getfield 15, 3) := by decide +kernel
theorem dX1_copyFrom_13 : decode cX1_copyFrom 13 = .ok (.putfield 15, 3) := by decide +kernel
theorem dX1_copyFrom_16 : decode cX1_copyFrom 16 = .ok (.aload_n 0, 1) := by decide +kernel
theorem dX1_copyFrom_17 : decode cX1_copyFrom 17 = .ok (.aload_n 1, 1) := by decide +kernel
theorem dX1_copyFrom_18 : decode cX1_copyFrom 18 = .ok (.getfield 18, 3) := by decide +kernel
theorem dX1_copyFrom_21 : decode cX1_copyFrom 21 = .ok (.putfield 18, 3) := by decide +kernel
theorem dX1_copyFrom_24 : decode cX1_copyFrom 24 = .ok (.aload_n 0, 1) := by decide +kernel
theorem dX1_copyFrom_25 : decode cX1_copyFrom 25 = .ok (.aload_n 1, 1) := by decide +kernel
theorem dX1_copyFrom_26 : decode cX1_copyFrom 26 = .ok (.getfield 21, 3) := by decide +kernel
theorem dX1_copyFrom_29 : decode cX1_copyFrom 29 = .ok (.putfield 21, 3) := by decide +kernel
theorem dX1_copyFrom_32 : decode cX1_copyFrom 32 = .ok (.aload_n 1, 1) := by decide +kernel
theorem dX1_copyFrom_33 : decode cX1_copyFrom 33 = .ok (.getfield 24, 3) := by decide +kernel
theorem dX1_copyFrom_36 : decode cX1_copyFrom 36 = .ok (.iconst 0, 1) := by decide +kernel
theorem dX1_copyFrom_37 : decode cX1_copyFrom 37 = .ok (.aload_n 0, 1) := by decide +kernel
theorem dX1_copyFrom_38 : decode cX1_copyFrom 38 = .ok (.getfield 24, 3) := by decide +kernel
theorem dX1_copyFrom_41 : decode cX1_copyFrom 41 = .ok (.iconst 0, 1) := by decide +kernel
theorem dX1_copyFrom_42 : decode cX1_copyFrom 42 = .ok (.bipush 12, 2) := by decide +kernel
theorem dX1_copyFrom_44 : decode cX1_copyFrom 44 = .ok (.invokestatic 38, 3) := by decide +kernel
theorem dX1_copyFrom_47 : decode cX1_copyFrom 47 = .ok (.aload_n 1, 1) := by decide +kernel
theorem dX1_copyFrom_48 : decode cX1_copyFrom 48 = .ok (.getfield 28, 3) := by decide +kernel
theorem dX1_copyFrom_51 : decode cX1_copyFrom 51 = .ok (.iconst 0, 1) := by decide +kernel
theorem dX1_copyFrom_52 : decode cX1_copyFrom 52 = .ok (.aload_n 0, 1) := by decide +kernel
theorem dX1_copyFrom_53 : decode cX1_copyFrom 53 = .ok (.getfield 28, 3) := by decide +kernel
theorem dX1_copyFrom_56 : decode cX1_copyFrom 56 = .ok (.iconst 0, 1) := by decide +kernel
theorem dX1_copyFrom_57 : decode cX1_copyFrom 57 = .ok (.iconst 2, 1) := by decide +kernel
theorem dX1_copyFrom_58 : decode cX1_copyFrom 58 = .ok (.invokestatic 38, 3) := by decide +kernel
theorem dX1_copyFrom_61 : decode cX1_copyFrom 61 = .ok (.iconst 0, 1) := by decide +kernel
theorem dX1_copyFrom_62 : decode cX1_copyFrom 62 = .ok (.istore_n 2, 1) := by decide +kernel
theorem dX1_copyFrom_63 : decode cX1_copyFrom 63 = .ok (.iload_n 2, 1) := by decide +kernel
theorem dX1_copyFrom_64 : decode cX1_copyFrom 64 = .ok (.aload_n 0, 1) := by decide +kernel
theorem dX1_copyFrom_65 : decode cX1_copyFrom 65 = .ok (.getfield 21, 3) := by decide +kernel
theorem dX1_copyFrom_68 : decode cX1_copyFrom 68 = .ok (.if_icmp .ge 24, 3) := by decide +kernel
theorem dX1_copyFrom_71 : decode cX1_copyFrom 71 = .ok (.aload_n 0, 1) := by decide +kernel
theorem dX1_copyFrom_72 : decode cX1_copyFrom 72 = .ok (.getfield 33, 3) := by decide +kernel
theorem dX1_copyFrom_75 : decode cX1_copyFrom 75 = .ok (.iload_n 2, 1) := by decide +kernel
theorem dX1_copyFrom_76 : decode cX1_copyFrom 76 = .ok (.aaload, 1) := by decide +kernel
theorem dX1_copyFrom_77 : decode cX1_copyFrom 77 = .ok (.aload_n 1, 1) := by decide +kernel
theorem dX1_copyFrom_78 : decode cX1_copyFrom 78 = .ok (.getfield 33, 3) := by decide +kernel
theorem dX1_copyFrom_81 : decode cX1_copyFrom 81 = .ok (.iload_n 2, 1) := by decide +kernel
theorem dX1_copyFrom_82 : decode cX1_copyFrom 82 = .ok (.aaload, 1) := by decide +kernel
theorem dX1_copyFrom_83 : decode cX1_copyFrom 83 = .ok (.invokevirtual 44, 3) := by decide +kernel
theorem dX1_copyFrom_86 : decode cX1_copyFrom 86 = .ok (.iinc 2 1, 3) := by decide +kernel
theorem dX1_copyFrom_89 : decode cX1_copyFrom 89 = .ok (.goto (-26), 3) := by decide +kernel
theorem dX1_copyFrom_92 : decode cX1_copyFrom 92 = .ok (.return_, 1) := by decide +kernel
theorem dX1_placeOf_0 : decode cX1_placeOf 0 = .ok (.iconst 0, 1) := by decide +kernel
theorem dX1_placeOf_1 : decode cX1_placeOf 1 = .ok (.istore_n 2, 1) := by decide +kernel
theorem dX1_placeOf_2 : decode cX1_placeOf 2 = .ok (.iload_n 2, 1) := by decide +kernel
theorem dX1_placeOf_3 : decode cX1_placeOf 3 = .ok (.aload_n 0, 1) := by decide +kernel
theorem dX1_placeOf_4 : decode cX1_placeOf 4 = .ok (.getfield 21, 3) := by decide +kernel
theorem dX1_placeOf_7 : decode cX1_placeOf 7 = .ok (.if_icmp .ge 24, 3) := by decide +kernel
theorem dX1_placeOf_10 : decode cX1_placeOf 10 = .ok (.aload_n 0, 1) := by decide +kernel
theorem dX1_placeOf_11 : decode cX1_placeOf 11 = .ok (.getfield 33, 3) := by decide +kernel
theorem dX1_placeOf_14 : decode cX1_placeOf 14 = .ok (.iload_n 2, 1) := by decide +kernel
theorem dX1_placeOf_15 : decode cX1_placeOf 15 = .ok (.aaload, 1) := by decide +kernel
theorem dX1_placeOf_16 : decode cX1_placeOf 16 = .ok (.getfield 48, 3) := by decide +kernel
theorem dX1_placeOf_19 : decode cX1_placeOf 19 = .ok (.iload_n 1, 1) := by decide +kernel
theorem dX1_placeOf_20 : decode cX1_placeOf 20 = .ok (.if_icmp .ne 5, 3) := by decide +kernel
theorem dX1_placeOf_23 : decode cX1_placeOf 23 = .ok (.iload_n 2, 1) := by decide +kernel
theorem dX1_placeOf_24 : decode cX1_placeOf 24 = .ok (.ireturn, 1) := by decide +kernel
theorem dX1_placeOf_25 : decode cX1_placeOf 25 = .ok (.iinc 2 1, 3) := by decide +kernel
theorem dX1_placeOf_28 : decode cX1_placeOf 28 = .ok (.goto (-26), 3) := by decide +kernel
theorem dX1_placeOf_31 : decode cX1_placeOf 31 = .ok (.iconst (-1), 1) := by decide +kernel
theorem dX1_placeOf_32 : decode cX1_placeOf 32 = .ok (.ireturn, 1) := by decide +kernel
theorem dX1_baseOf_0 : decode cX1_baseOf 0 = .ok (.aload_n 0, 1) := by decide +kernel
theorem dX1_baseOf_1 : decode cX1_baseOf 1 = .ok (.iload_n 1, 1) := by decide +kernel
theorem dX1_baseOf_2 : decode cX1_baseOf 2 = .ok (.invokevirtual 51, 3) := by decide +kernel
theorem dX1_baseOf_5 : decode cX1_baseOf 5 = .ok (.istore_n 2, 1) := by decide +kernel
theorem dX1_baseOf_6 : decode cX1_baseOf 6 = .ok (.iload_n 2, 1) := by decide +kernel
theorem dX1_baseOf_7 : decode cX1_baseOf 7 = .ok (.iconst (-1), 1) := by decide +kernel
theorem dX1_baseOf_8 : decode cX1_baseOf 8 = .ok (.if_icmp .ne 7, 3) := by decide +kernel
theorem dX1_baseOf_11 : decode cX1_baseOf 11 = .ok (.iconst (-1), 1) := by decide +kernel
theorem dX1_baseOf_12 : decode cX1_baseOf 12 = .ok (.goto 12, 3) := by decide +kernel
theorem dX1_baseOf_15 : decode cX1_baseOf 15 = .ok (.aload_n 0, 1) := by decide +kernel
theorem dX1_baseOf_16 : decode cX1_baseOf 16 = .ok (.getfield 33, 3) := by decide +kernel
theorem dX1_baseOf_19 : decode cX1_baseOf 19 = .ok (.iload_n 2, 1) := by decide +kernel
theorem dX1_baseOf_20 : decode cX1_baseOf 20 = .ok (.aaload, 1) := by decide +kernel
theorem dX1_baseOf_21 : decode cX1_baseOf 21 = .ok (.getfield 55, 3) := by decide +kernel
theorem dX1_baseOf_24 : decode cX1_baseOf 24 = .ok (.ireturn, 1) := by decide +kernel
theorem dX1_linksOf_0 : decode cX1_linksOf 0 = .ok (.iconst 1, 1) := by decide +kernel
theorem dX1_linksOf_1 : decode cX1_linksOf 1 = .ok (.istore_n 2, 1) := by decide +kernel
theorem dX1_linksOf_2 : decode cX1_linksOf 2 = .ok (.aload_n 0, 1) := by decide +kernel
theorem dX1_linksOf_3 : decode cX1_linksOf 3 = .ok (.iload_n 1, 1) := by decide +kernel
theorem dX1_linksOf_4 : decode cX1_linksOf 4 = .ok (.invokevirtual 58, 3) := by decide +kernel
theorem dX1_linksOf_7 : decode cX1_linksOf 7 = .ok (.istore_n 3, 1) := by decide +kernel
theorem dX1_linksOf_8 : decode cX1_linksOf 8 = .ok (.iconst 0, 1) := by decide +kernel
theorem dX1_linksOf_9 : decode cX1_linksOf 9 = .ok (.istore 4, 2) := by decide +kernel
theorem dX1_linksOf_11 : decode cX1_linksOf 11 = .ok (.iload 4, 2) := by decide +kernel
theorem dX1_linksOf_13 : decode cX1_linksOf 13 = .ok (.bipush 99, 2) := by decide +kernel
theorem dX1_linksOf_15 : decode cX1_linksOf 15 = .ok (.if_icmp .ge 23, 3) := by decide +kernel
theorem dX1_linksOf_18 : decode cX1_linksOf 18 = .ok (.iload_n 3, 1) := by decide +kernel
theorem dX1_linksOf_19 : decode cX1_linksOf 19 = .ok (.iconst (-1), 1) := by decide +kernel
theorem dX1_linksOf_20 : decode cX1_linksOf 20 = .ok (.if_icmp .eq 18, 3) := by decide +kernel
theorem dX1_linksOf_23 : decode cX1_linksOf 23 = .ok (.iinc 2 1, 3) := by decide +kernel
theorem dX1_linksOf_26 : decode cX1_linksOf 26 = .ok (.aload_n 0, 1) := by decide +kernel
theorem dX1_linksOf_27 : decode cX1_linksOf 27 = .ok (.iload_n 3, 1) := by decide +kernel
theorem dX1_linksOf_28 : decode cX1_linksOf 28 = .ok (.invokevirtual 58, 3) := by decide +kernel
theorem dX1_linksOf_31 : decode cX1_linksOf 31 = .ok (.istore_n 3, 1) := by decide +kernel
theorem dX1_linksOf_32 : decode cX1_linksOf 32 = .ok (.iinc 4 1, 3) := by decide +kernel
theorem dX1_linksOf_35 : decode cX1_linksOf 35 = .ok (.goto (-24), 3) := by decide +kernel
theorem dX1_linksOf_38 : decode cX1_linksOf 38 = .ok (.iload_n 2, 1) := by decide +kernel
theorem dX1_linksOf_39 : decode cX1_linksOf 39 = .ok (.ireturn, 1) := by decide +kernel
theorem dX1_longestChain_0 : decode cX1_longestChain 0 = .ok (.iconst 0, 1) := by decide +kernel
theorem dX1_longestChain_1 : decode cX1_longestChain 1 = .ok (.istore_n 1, 1) := by decide +kernel
theorem dX1_longestChain_2 : decode cX1_longestChain 2 = .ok (.iconst 0, 1) := by decide +kernel
theorem dX1_longestChain_3 : decode cX1_longestChain 3 = .ok (.istore_n 2, 1) := by decide +kernel
theorem dX1_longestChain_4 : decode cX1_longestChain 4 = .ok (.iload_n 2, 1) := by decide +kernel
theorem dX1_longestChain_5 : decode cX1_longestChain 5 = .ok (.aload_n 0, 1) := by decide +kernel
theorem dX1_longestChain_6 : decode cX1_longestChain 6 = .ok (.getfield 21, 3) := by decide +kernel
theorem dX1_longestChain_9 : decode cX1_longestChain 9 = .ok (.if_icmp .ge 27, 3) := by decide +kernel
theorem dX1_longestChain_12 : decode cX1_longestChain 12 = .ok (.iload_n 1, 1) := by decide +kernel
theorem dX1_longestChain_13 : decode cX1_longestChain 13 = .ok (.aload_n 0, 1) := by decide +kernel
theorem dX1_longestChain_14 : decode cX1_longestChain 14 = .ok (.aload_n 0, 1) := by decide +kernel
theorem dX1_longestChain_15 : decode cX1_longestChain 15 = .ok (.getfield 33, 3) := by decide +kernel
theorem dX1_longestChain_18 : decode cX1_longestChain 18 = .ok (.iload_n 2, 1) := by decide +kernel
theorem dX1_longestChain_19 : decode cX1_longestChain 19 = .ok (.aaload, 1) := by decide +kernel
theorem dX1_longestChain_20 : decode cX1_longestChain 20 = .ok (.getfield 48, 3) := by decide +kernel
theorem dX1_longestChain_23 : decode cX1_longestChain 23 = .ok (.invokevirtual 61, 3) := by decide +kernel
theorem dX1_longestChain_26 : decode cX1_longestChain 26 = .ok (.invokestatic 64, 3) := by decide +kernel
theorem dX1_longestChain_29 : decode cX1_longestChain 29 = .ok (.istore_n 1, 1) := by decide +kernel
theorem dX1_longestChain_30 : decode cX1_longestChain 30 = .ok (.iinc 2 1, 3) := by decide +kernel
theorem dX1_longestChain_33 : decode cX1_longestChain 33 = .ok (.goto (-29), 3) := by decide +kernel
theorem dX1_longestChain_36 : decode cX1_longestChain 36 = .ok (.iload_n 1, 1) := by decide +kernel
theorem dX1_longestChain_37 : decode cX1_longestChain 37 = .ok (.ireturn, 1) := by decide +kernel
theorem dX1_followersOf_0 : decode cX1_followersOf 0 = .ok (.iconst 0, 1) := by decide +kernel
theorem dX1_followersOf_1 : decode cX1_followersOf 1 = .ok (.istore_n 2, 1) := by decide +kernel
theorem dX1_followersOf_2 : decode cX1_followersOf 2 = .ok (.iconst 0, 1) := by decide +kernel
theorem dX1_followersOf_3 : decode cX1_followersOf 3 = .ok (.istore_n 3, 1) := by decide +kernel
theorem dX1_followersOf_4 : decode cX1_followersOf 4 = .ok (.iload_n 3, 1) := by decide +kernel
theorem dX1_followersOf_5 : decode cX1_followersOf 5 = .ok (.aload_n 0, 1) := by decide +kernel
theorem dX1_followersOf_6 : decode cX1_followersOf 6 = .ok (.getfield 21, 3) := by decide +kernel
theorem dX1_followersOf_9 : decode cX1_followersOf 9 = .ok (.if_icmp .ge 25, 3) := by decide +kernel
theorem dX1_followersOf_12 : decode cX1_followersOf 12 = .ok (.aload_n 0, 1) := by decide +kernel
theorem dX1_followersOf_13 : decode cX1_followersOf 13 = .ok (.getfield 33, 3) := by decide +kernel
theorem dX1_followersOf_16 : decode cX1_followersOf 16 = .ok (.iload_n 3, 1) := by decide +kernel
theorem dX1_followersOf_17 : decode cX1_followersOf 17 = .ok (.aaload, 1) := by decide +kernel
theorem dX1_followersOf_18 : decode cX1_followersOf 18 = .ok (.getfield 55, 3) := by decide +kernel
theorem dX1_followersOf_21 : decode cX1_followersOf 21 = .ok (.iload_n 1, 1) := by decide +kernel
theorem dX1_followersOf_22 : decode cX1_followersOf 22 = .ok (.if_icmp .ne 6, 3) := by decide +kernel
theorem dX1_followersOf_25 : decode cX1_followersOf 25 = .ok (.iinc 2 1, 3) := by decide +kernel
theorem dX1_followersOf_28 : decode cX1_followersOf 28 = .ok (.iinc 3 1, 3) := by decide +kernel
theorem dX1_followersOf_31 : decode cX1_followersOf 31 = .ok (.goto (-27), 3) := by decide +kernel
theorem dX1_followersOf_34 : decode cX1_followersOf 34 = .ok (.iload_n 2, 1) := by decide +kernel
theorem dX1_followersOf_35 : decode cX1_followersOf 35 = .ok (.ireturn, 1) := by decide +kernel
theorem dX1_wholeOnes_0 : decode cX1_wholeOnes 0 = .ok (.aload_n 0, 1) := by decide +kernel
theorem dX1_wholeOnes_1 : decode cX1_wholeOnes 1 = .ok (.iconst (-1), 1) := by decide +kernel
theorem dX1_wholeOnes_2 : decode cX1_wholeOnes 2 = .ok (.invokevirtual 70, 3) := by decide +kernel
theorem dX1_wholeOnes_5 : decode cX1_wholeOnes 5 = .ok (.ireturn, 1) := by decide +kernel
theorem dX1_weight_0 : decode cX1_weight 0 = .ok (.iconst 0, 1) := by decide +kernel
theorem dX1_weight_1 : decode cX1_weight 1 = .ok (.istore_n 1, 1) := by decide +kernel
theorem dX1_weight_2 : decode cX1_weight 2 = .ok (.iconst 0, 1) := by decide +kernel
theorem dX1_weight_3 : decode cX1_weight 3 = .ok (.istore_n 2, 1) := by decide +kernel
theorem dX1_weight_4 : decode cX1_weight 4 = .ok (.iload_n 2, 1) := by decide +kernel
theorem dX1_weight_5 : decode cX1_weight 5 = .ok (.aload_n 0, 1) := by decide +kernel
theorem dX1_weight_6 : decode cX1_weight 6 = .ok (.getfield 21, 3) := by decide +kernel
theorem dX1_weight_9 : decode cX1_weight 9 = .ok (.if_icmp .ge 21, 3) := by decide +kernel
theorem dX1_weight_12 : decode cX1_weight 12 = .ok (.iload_n 1, 1) := by decide +kernel
theorem dX1_weight_13 : decode cX1_weight 13 = .ok (.aload_n 0, 1) := by decide +kernel
theorem dX1_weight_14 : decode cX1_weight 14 = .ok (.getfield 33, 3) := by decide +kernel
theorem dX1_weight_17 : decode cX1_weight 17 = .ok (.iload_n 2, 1) := by decide +kernel
theorem dX1_weight_18 : decode cX1_weight 18 = .ok (.aaload, 1) := by decide +kernel
theorem dX1_weight_19 : decode cX1_weight 19 = .ok (.invokevirtual 73, 3) := by decide +kernel
theorem dX1_weight_22 : decode cX1_weight 22 = .ok (.iadd, 1) := by decide +kernel
theorem dX1_weight_23 : decode cX1_weight 23 = .ok (.istore_n 1, 1) := by decide +kernel
theorem dX1_weight_24 : decode cX1_weight 24 = .ok (.iinc 2 1, 3) := by decide +kernel
theorem dX1_weight_27 : decode cX1_weight 27 = .ok (.goto (-23), 3) := by decide +kernel
theorem dX1_weight_30 : decode cX1_weight 30 = .ok (.iload_n 1, 1) := by decide +kernel
theorem dX1_weight_31 : decode cX1_weight 31 = .ok (.ireturn, 1) := by decide +kernel
theorem dX1_removePlace_0 : decode cX1_removePlace 0 = .ok (.aload_n 0, 1) := by decide +kernel
theorem dX1_removePlace_1 : decode cX1_removePlace 1 = .ok (.getfield 33, 3) := by decide +kernel
theorem dX1_removePlace_4 : decode cX1_removePlace 4 = .ok (.iload_n 1, 1) := by decide +kernel
theorem dX1_removePlace_5 : decode cX1_removePlace 5 = .ok (.aaload, 1) := by decide +kernel
theorem dX1_removePlace_6 : decode cX1_removePlace 6 = .ok (.astore_n 2, 1) := by decide +kernel
theorem dX1_removePlace_7 : decode cX1_removePlace 7 = .ok (.iload_n 1, 1) := by decide +kernel
theorem dX1_removePlace_8 : decode cX1_removePlace 8 = .ok (.iconst 1, 1) := by decide +kernel
theorem dX1_removePlace_9 : decode cX1_removePlace 9 = .ok (.iadd, 1) := by decide +kernel
theorem dX1_removePlace_10 : decode cX1_removePlace 10 = .ok (.istore_n 3, 1) := by decide +kernel
theorem dX1_removePlace_11 : decode cX1_removePlace 11 = .ok (.iload_n 3, 1) := by decide +kernel
theorem dX1_removePlace_12 : decode cX1_removePlace 12 = .ok (.aload_n 0, 1) := by decide +kernel
theorem dX1_removePlace_13 : decode cX1_removePlace 13 = .ok (.getfield 21, 3) := by decide +kernel
theorem dX1_removePlace_16 : decode cX1_removePlace 16 = .ok (.if_icmp .ge 23, 3) := by decide +kernel
theorem dX1_removePlace_19 : decode cX1_removePlace 19 = .ok (.aload_n 0, 1) := by decide +kernel
theorem dX1_removePlace_20 : decode cX1_removePlace 20 = .ok (.getfield 33, 3) := by decide +kernel
theorem dX1_removePlace_23 : decode cX1_removePlace 23 = .ok (.iload_n 3, 1) := by decide +kernel
theorem dX1_removePlace_24 : decode cX1_removePlace 24 = .ok (.iconst 1, 1) := by decide +kernel
theorem dX1_removePlace_25 : decode cX1_removePlace 25 = .ok (.isub, 1) := by decide +kernel
theorem dX1_removePlace_26 : decode cX1_removePlace 26 = .ok (.aload_n 0, 1) := by decide +kernel
theorem dX1_removePlace_27 : decode cX1_removePlace 27 = .ok (.getfield 33, 3) := by decide +kernel
theorem dX1_removePlace_30 : decode cX1_removePlace 30 = .ok (.iload_n 3, 1) := by decide +kernel
theorem dX1_removePlace_31 : decode cX1_removePlace 31 = .ok (.aaload, 1) := by decide +kernel
theorem dX1_removePlace_32 : decode cX1_removePlace 32 = .ok (.aastore, 1) := by decide +kernel
theorem dX1_removePlace_33 : decode cX1_removePlace 33 = .ok (.iinc 3 1, 3) := by decide +kernel
theorem dX1_removePlace_36 : decode cX1_removePlace 36 = .ok (.goto (-25), 3) := by decide +kernel
theorem dX1_removePlace_39 : decode cX1_removePlace 39 = .ok (.aload_n 0, 1) := by decide +kernel
theorem dX1_removePlace_40 : decode cX1_removePlace 40 = .ok (.dup, 1) := by decide +kernel
theorem dX1_removePlace_41 : decode cX1_removePlace 41 = .ok (.getfield 21, 3) := by decide +kernel
theorem dX1_removePlace_44 : decode cX1_removePlace 44 = .ok (.iconst 1, 1) := by decide +kernel
theorem dX1_removePlace_45 : decode cX1_removePlace 45 = .ok (.isub, 1) := by decide +kernel
theorem dX1_removePlace_46 : decode cX1_removePlace 46 = .ok (.putfield 21, 3) := by decide +kernel
theorem dX1_removePlace_49 : decode cX1_removePlace 49 = .ok (.aload_n 0, 1) := by decide +kernel
theorem dX1_removePlace_50 : decode cX1_removePlace 50 = .ok (.getfield 33, 3) := by decide +kernel
theorem dX1_removePlace_53 : decode cX1_removePlace 53 = .ok (.aload_n 0, 1) := by decide +kernel
theorem dX1_removePlace_54 : decode cX1_removePlace 54 = .ok (.getfield 21, 3) := by decide +kernel
theorem dX1_removePlace_57 : decode cX1_removePlace 57 = .ok (.aload_n 2, 1) := by decide +kernel
theorem dX1_removePlace_58 : decode cX1_removePlace 58 = .ok (.aastore, 1) := by decide +kernel
theorem dX1_removePlace_59 : decode cX1_removePlace 59 = .ok (.return_, 1) := by decide +kernel
theorem dX2_init_0 : decode cX2_init 0 = .ok (.aload_n 0, 1) := by decide +kernel
theorem dX2_init_1 : decode cX2_init 1 = .ok (.invokespecial 3, 3) := by decide +kernel
theorem dX2_init_4 : decode cX2_init 4 = .ok (.aload_n 0, 1) := by decide +kernel
theorem dX2_init_5 : decode cX2_init 5 = .ok (.bipush 20, 2) := by decide +kernel
theorem dX2_init_7 : decode cX2_init 7 = .ok (.bipush 12, 2) := by decide +kernel
theorem dX2_init_9 : decode cX2_init 9 = .ok (.multianewarray 9 2, 4) := by decide +kernel
theorem dX2_init_13 : decode cX2_init 13 = .ok (.putfield 11, 3) := by decide +kernel
theorem dX2_init_16 : decode cX2_init 16 = .ok (.aload_n 0, 1) := by decide +kernel
theorem dX2_init_17 : decode cX2_init 17 = .ok (.bipush 20, 2) := by decide +kernel
theorem dX2_init_19 : decode cX2_init 19 = .ok (.newarray .int, 2) := by decide +kernel
theorem dX2_init_21 : decode cX2_init 21 = .ok (.putfield 16, 3) := by decide +kernel
theorem dX2_init_24 : decode cX2_init 24 = .ok (.return_, 1) := by decide +kernel
theorem dX2_readAll_0 : decode cX2_readAll 0 = .ok (.iconst 0, 1) := by decide +kernel
theorem dX2_readAll_1 : decode cX2_readAll 1 = .ok (.istore_n 2, 1) := by decide +kernel
theorem dX2_readAll_2 : decode cX2_readAll 2 = .ok (.iload_n 2, 1) := by decide +kernel
theorem dX2_readAll_3 : decode cX2_readAll 3 = .ok (.aload_n 1, 1) := by decide +kernel
theorem dX2_readAll_4 : decode cX2_readAll 4 = .ok (.getfield 20, 3) := by decide +kernel
theorem dX2_readAll_7 : decode cX2_readAll 7 = .ok (.if_icmp .ge 21, 3) := by decide +kernel
theorem dX2_readAll_10 : decode cX2_readAll 10 = .ok (.aload_n 0, 1) := by decide +kernel
theorem dX2_readAll_11 : decode cX2_readAll 11 = .ok (.getfield 16, 3) := by decide +kernel
theorem dX2_readAll_14 : decode cX2_readAll 14 = .ok (.iload_n 2, 1) := by decide +kernel
theorem dX2_readAll_15 : decode cX2_readAll 15 = .ok (.aload_n 0, 1) := by decide +kernel
theorem dX2_readAll_16 : decode cX2_readAll 16 = .ok (.aload_n 1, 1) := by decide +kernel
theorem dX2_readAll_17 : decode cX2_readAll 17 = .ok (.iload_n 2, 1) := by decide +kernel
theorem dX2_readAll_18 : decode cX2_readAll 18 = .ok (.invokevirtual 26, 3) := by decide +kernel
theorem dX2_readAll_21 : decode cX2_readAll 21 = .ok (.iastore, 1) := by decide +kernel
theorem dX2_readAll_22 : decode cX2_readAll 22 = .ok (.iinc 2 1, 3) := by decide +kernel
theorem dX2_readAll_25 : decode cX2_readAll 25 = .ok (.goto (-23), 3) := by decide +kernel
theorem dX2_readAll_28 : decode cX2_readAll 28 = .ok (.return_, 1) := by decide +kernel
theorem dX2_readPlace_0 : decode cX2_readPlace 0 = .ok (.aload_n 1, 1) := by decide +kernel
theorem dX2_readPlace_1 : decode cX2_readPlace 1 = .ok (.getfield 30, 3) := by decide +kernel
theorem dX2_readPlace_4 : decode cX2_readPlace 4 = .ok (.iload_n 2, 1) := by decide +kernel
theorem dX2_readPlace_5 : decode cX2_readPlace 5 = .ok (.aaload, 1) := by decide +kernel
theorem dX2_readPlace_6 : decode cX2_readPlace 6 = .ok (.astore_n 3, 1) := by decide +kernel
theorem dX2_readPlace_7 : decode cX2_readPlace 7 = .ok (.aload_n 0, 1) := by decide +kernel
theorem dX2_readPlace_8 : decode cX2_readPlace 8 = .ok (.getfield 11, 3) := by decide +kernel
theorem dX2_readPlace_11 : decode cX2_readPlace 11 = .ok (.iload_n 2, 1) := by decide +kernel
theorem dX2_readPlace_12 : decode cX2_readPlace 12 = .ok (.aaload, 1) := by decide +kernel
theorem dX2_readPlace_13 : decode cX2_readPlace 13 = .ok (.astore 4, 2) := by decide +kernel
theorem dX2_readPlace_15 : decode cX2_readPlace 15 = .ok (.aload_n 3, 1) := by decide +kernel
theorem dX2_readPlace_16 : decode cX2_readPlace 16 = .ok (.getfield 34, 3) := by decide +kernel
theorem dX2_readPlace_19 : decode cX2_readPlace 19 = .ok (.iconst (-1), 1) := by decide +kernel
theorem dX2_readPlace_20 : decode cX2_readPlace 20 = .ok (.if_icmp .eq 67, 3) := by decide +kernel
theorem dX2_readPlace_23 : decode cX2_readPlace 23 = .ok (.aload_n 1, 1) := by decide +kernel
theorem dX2_readPlace_24 : decode cX2_readPlace 24 = .ok (.aload_n 3, 1) := by decide +kernel
theorem dX2_readPlace_25 : decode cX2_readPlace 25 = .ok (.getfield 34, 3) := by decide +kernel
theorem dX2_readPlace_28 : decode cX2_readPlace 28 = .ok (.invokevirtual 39, 3) := by decide +kernel
theorem dX2_readPlace_31 : decode cX2_readPlace 31 = .ok (.istore 5, 2) := by decide +kernel
theorem dX2_readPlace_33 : decode cX2_readPlace 33 = .ok (.iload 5, 2) := by decide +kernel
theorem dX2_readPlace_35 : decode cX2_readPlace 35 = .ok (.iconst (-1), 1) := by decide +kernel
theorem dX2_readPlace_36 : decode cX2_readPlace 36 = .ok (.if_icmp .eq 14, 3) := by decide +kernel
theorem dX2_readPlace_39 : decode cX2_readPlace 39 = .ok (.aload_n 0, 1) := by decide +kernel
theorem dX2_readPlace_40 : decode cX2_readPlace 40 = .ok (.getfield 16, 3) := by decide +kernel
theorem dX2_readPlace_43 : decode cX2_readPlace 43 = .ok (.iload 5, 2) := by decide +kernel
theorem dX2_readPlace_45 : decode cX2_readPlace 45 = .ok (.iaload, 1) := by decide +kernel
theorem dX2_readPlace_46 : decode cX2_readPlace 46 = .ok (.iconst (-1), 1) := by decide +kernel
theorem dX2_readPlace_47 : decode cX2_readPlace 47 = .ok (.if_icmp .eq 5, 3) := by decide +kernel
theorem dX2_readPlace_50 : decode cX2_readPlace 50 = .ok (.iconst 2, 1) := by decide +kernel
theorem dX2_readPlace_51 : decode cX2_readPlace 51 = .ok (.ireturn, 1) := by decide +kernel
theorem dX2_readPlace_52 : decode cX2_readPlace 52 = .ok (.aload_n 0, 1) := by decide +kernel
theorem dX2_readPlace_53 : decode cX2_readPlace 53 = .ok (.getfield 11, 3) := by decide +kernel
theorem dX2_readPlace_56 : decode cX2_readPlace 56 = .ok (.iload 5, 2) := by decide +kernel
theorem dX2_readPlace_58 : decode cX2_readPlace 58 = .ok (.aaload, 1) := by decide +kernel
theorem dX2_readPlace_59 : decode cX2_readPlace 59 = .ok (.iconst 0, 1) := by decide +kernel
theorem dX2_readPlace_60 : decode cX2_readPlace 60 = .ok (.aload 4, 2) := by decide +kernel
theorem dX2_readPlace_62 : decode cX2_readPlace 62 = .ok (.iconst 0, 1) := by decide +kernel
theorem dX2_readPlace_63 : decode cX2_readPlace 63 = .ok (.bipush 12, 2) := by decide +kernel
theorem dX2_readPlace_65 : decode cX2_readPlace 65 = .ok (.invokestatic 43, 3) := by decide +kernel
theorem dX2_readPlace_68 : decode cX2_readPlace 68 = .ok (.aload 4, 2) := by decide +kernel
theorem dX2_readPlace_70 : decode cX2_readPlace 70 = .ok (.aload_n 1, 1) := by decide +kernel
theorem dX2_readPlace_71 : decode cX2_readPlace 71 = .ok (.getfield 30, 3) := by decide +kernel
theorem dX2_readPlace_74 : decode cX2_readPlace 74 = .ok (.iload 5, 2) := by decide +kernel
theorem dX2_readPlace_76 : decode cX2_readPlace 76 = .ok (.aaload, 1) := by decide +kernel
theorem dX2_readPlace_77 : decode cX2_readPlace 77 = .ok (.getfield 49, 3) := by decide +kernel
theorem dX2_readPlace_80 : decode cX2_readPlace 80 = .ok (.aload_n 3, 1) := by decide +kernel
theorem dX2_readPlace_81 : decode cX2_readPlace 81 = .ok (.getfield 49, 3) := by decide +kernel
theorem dX2_readPlace_84 : decode cX2_readPlace 84 = .ok (.invokestatic 52, 3) := by decide +kernel
theorem dX2_readPlace_87 : decode cX2_readPlace 87 = .ok (.iconst 0, 1) := by decide +kernel
theorem dX2_readPlace_88 : decode cX2_readPlace 88 = .ok (.istore 5, 2) := by decide +kernel
theorem dX2_readPlace_90 : decode cX2_readPlace 90 = .ok (.iload 5, 2) := by decide +kernel
theorem dX2_readPlace_92 : decode cX2_readPlace 92 = .ok (.aload_n 3, 1) := by decide +kernel
theorem dX2_readPlace_93 : decode cX2_readPlace 93 = .ok (.getfield 56, 3) := by decide +kernel
theorem dX2_readPlace_96 : decode cX2_readPlace 96 = .ok (.if_icmp .ge 26, 3) := by decide +kernel
theorem dX2_readPlace_99 : decode cX2_readPlace 99 = .ok (.aload 4, 2) := by decide +kernel
theorem dX2_readPlace_101 : decode cX2_readPlace 101 = .ok (.aload_n 3, 1) := by decide +kernel
theorem dX2_readPlace_102 : decode cX2_readPlace 102 = .ok (.getfield 57, 3) := by decide +kernel
theorem dX2_readPlace_105 : decode cX2_readPlace 105 = .ok (.iload 5, 2) := by decide +kernel
theorem dX2_readPlace_107 : decode cX2_readPlace 107 = .ok (.iaload, 1) := by decide +kernel
theorem dX2_readPlace_108 : decode cX2_readPlace 108 = .ok (.aload_n 3, 1) := by decide +kernel
theorem dX2_readPlace_109 : decode cX2_readPlace 109 = .ok (.getfield 60, 3) := by decide +kernel
theorem dX2_readPlace_112 : decode cX2_readPlace 112 = .ok (.iload 5, 2) := by decide +kernel
theorem dX2_readPlace_114 : decode cX2_readPlace 114 = .ok (.iaload, 1) := by decide +kernel
theorem dX2_readPlace_115 : decode cX2_readPlace 115 = .ok (.iastore, 1) := by decide +kernel
theorem dX2_readPlace_116 : decode cX2_readPlace 116 = .ok (.iinc 5 1, 3) := by decide +kernel
theorem dX2_readPlace_119 : decode cX2_readPlace 119 = .ok (.goto (-29), 3) := by decide +kernel
theorem dX2_readPlace_122 : decode cX2_readPlace 122 = .ok (.aload 4, 2) := by decide +kernel
theorem dX2_readPlace_124 : decode cX2_readPlace 124 = .ok (.aload_n 3, 1) := by decide +kernel
theorem dX2_readPlace_125 : decode cX2_readPlace 125 = .ok (.getfield 49, 3) := by decide +kernel
theorem dX2_readPlace_128 : decode cX2_readPlace 128 = .ok (.invokestatic 63, 3) := by decide +kernel
theorem dX2_readPlace_131 : decode cX2_readPlace 131 = .ok (.aload_n 3, 1) := by decide +kernel
theorem dX2_readPlace_132 : decode cX2_readPlace 132 = .ok (.getfield 67, 3) := by decide +kernel
theorem dX2_readPlace_135 : decode cX2_readPlace 135 = .ok (.if_icmp .ne 7, 3) := by decide +kernel
theorem dX2_readPlace_138 : decode cX2_readPlace 138 = .ok (.iconst (-1), 1) := by decide +kernel
theorem dX2_readPlace_139 : decode cX2_readPlace 139 = .ok (.goto 4, 3) := by decide +kernel
theorem dX2_readPlace_142 : decode cX2_readPlace 142 = .ok (.iconst 1, 1) := by decide +kernel
theorem dX2_readPlace_143 : decode cX2_readPlace 143 = .ok (.ireturn, 1) := by decide +kernel
theorem dX3_init_0 : decode cX3_init 0 = .ok (.aload_n 0, 1) := by decide +kernel
theorem dX3_init_1 : decode cX3_init 1 = .ok (.invokespecial 3, 3) := by decide +kernel
theorem dX3_init_4 : decode cX3_init 4 = .ok (.aload_n 0, 1) := by decide +kernel
theorem dX3_init_5 : decode cX3_init 5 = .ok (.bipush 80, 2) := by decide +kernel
theorem dX3_init_7 : decode cX3_init 7 = .ok (.newarray .int, 2) := by decide +kernel
theorem dX3_init_9 : decode cX3_init 9 = .ok (.putfield 9, 3) := by decide +kernel
theorem dX3_init_12 : decode cX3_init 12 = .ok (.aload_n 0, 1) := by decide +kernel
theorem dX3_init_13 : decode cX3_init 13 = .ok (.iconst 0, 1) := by decide +kernel
theorem dX3_init_14 : decode cX3_init 14 = .ok (.putfield 15, 3) := by decide +kernel
theorem dX3_init_17 : decode cX3_init 17 = .ok (.aload_n 0, 1) := by decide +kernel
theorem dX3_init_18 : decode cX3_init 18 = .ok (.bipush 12, 2) := by decide +kernel
theorem dX3_init_20 : decode cX3_init 20 = .ok (.newarray .int, 2) := by decide +kernel
theorem dX3_init_22 : decode cX3_init 22 = .ok (.putfield 19, 3) := by decide +kernel
theorem dX3_init_25 : decode cX3_init 25 = .ok (.aload_n 0, 1) := by decide +kernel
theorem dX3_init_26 : decode cX3_init 26 = .ok (.iconst 0, 1) := by decide +kernel
theorem dX3_init_27 : decode cX3_init 27 = .ok (.putfield 22, 3) := by decide +kernel
theorem dX3_init_30 : decode cX3_init 30 = .ok (.aload_n 0, 1) := by decide +kernel
theorem dX3_init_31 : decode cX3_init 31 = .ok (.iconst 0, 1) := by decide +kernel
theorem dX3_init_32 : decode cX3_init 32 = .ok (.putfield 25, 3) := by decide +kernel
theorem dX3_init_35 : decode cX3_init 35 = .ok (.aload_n 0, 1) := by decide +kernel
theorem dX3_init_36 : decode cX3_init 36 = .ok (.iconst (-1), 1) := by decide +kernel
theorem dX3_init_37 : decode cX3_init 37 = .ok (.putfield 28, 3) := by decide +kernel
theorem dX3_init_40 : decode cX3_init 40 = .ok (.return_, 1) := by decide +kernel
theorem dX3_run_0 : decode cX3_run 0 = .ok (.aload_n 1, 1) := by decide +kernel
theorem dX3_run_1 : decode cX3_run 1 = .ok (.iconst 0, 1) := by decide +kernel
theorem dX3_run_2 : decode cX3_run 2 = .ok (.aload_n 0, 1) := by decide +kernel
theorem dX3_run_3 : decode cX3_run 3 = .ok (.getfield 19, 3) := by decide +kernel
theorem dX3_run_6 : decode cX3_run 6 = .ok (.iconst 0, 1) := by decide +kernel
theorem dX3_run_7 : decode cX3_run 7 = .ok (.bipush 12, 2) := by decide +kernel
theorem dX3_run_9 : decode cX3_run 9 = .ok (.invokestatic 31, 3) := by decide +kernel
theorem dX3_run_12 : decode cX3_run 12 = .ok (.aload_n 0, 1) := by decide +kernel
theorem dX3_run_13 : decode cX3_run 13 = .ok (.iload_n 2, 1) := by decide +kernel
theorem dX3_run_14 : decode cX3_run 14 = .ok (.putfield 22, 3) := by decide +kernel
theorem dX3_run_17 : decode cX3_run 17 = .ok (.aload_n 0, 1) := by decide +kernel
theorem dX3_run_18 : decode cX3_run 18 = .ok (.iconst 0, 1) := by decide +kernel
theorem dX3_run_19 : decode cX3_run 19 = .ok (.putfield 25, 3) := by decide +kernel
theorem dX3_run_22 : decode cX3_run 22 = .ok (.aload_n 0, 1) := by decide +kernel
theorem dX3_run_23 : decode cX3_run 23 = .ok (.iconst (-1), 1) := by decide +kernel
theorem dX3_run_24 : decode cX3_run 24 = .ok (.putfield 28, 3) := by decide +kernel
theorem dX3_run_27 : decode cX3_run 27 = .ok (.iconst 0, 1) := by decide +kernel
theorem dX3_run_28 : decode cX3_run 28 = .ok (.istore_n 3, 1) := by decide +kernel
theorem dX3_run_29 : decode cX3_run 29 = .ok (.aload_n 0, 1) := by decide +kernel
theorem dX3_run_30 : decode cX3_run 30 = .ok (.invokevirtual 37, 3) := by decide +kernel
theorem dX3_run_33 : decode cX3_run 33 = .ok (.iconst 0, 1) := by decide +kernel
theorem dX3_run_34 : decode cX3_run 34 = .ok (.istore 4, 2) := by decide +kernel
theorem dX3_run_36 : decode cX3_run 36 = .ok (.iload 4, 2) := by decide +kernel
theorem dX3_run_38 : decode cX3_run 38 = .ok (.bipush 80, 2) := by decide +kernel
theorem dX3_run_40 : decode cX3_run 40 = .ok (.if_icmp .ge 43, 3) := by decide +kernel
theorem dX3_run_43 : decode cX3_run 43 = .ok (.aload_n 0, 1) := by decide +kernel
theorem dX3_run_44 : decode cX3_run 44 = .ok (.getfield 25, 3) := by decide +kernel
theorem dX3_run_47 : decode cX3_run 47 = .ok (.aload_n 0, 1) := by decide +kernel
theorem dX3_run_48 : decode cX3_run 48 = .ok (.getfield 15, 3) := by decide +kernel
theorem dX3_run_51 : decode cX3_run 51 = .ok (.if_icmp .ge 32, 3) := by decide +kernel
theorem dX3_run_54 : decode cX3_run 54 = .ok (.aload_n 0, 1) := by decide +kernel
theorem dX3_run_55 : decode cX3_run 55 = .ok (.getfield 28, 3) := by decide +kernel
theorem dX3_run_58 : decode cX3_run 58 = .ok (.iconst (-1), 1) := by decide +kernel
theorem dX3_run_59 : decode cX3_run 59 = .ok (.if_icmp .ne 24, 3) := by decide +kernel
theorem dX3_run_62 : decode cX3_run 62 = .ok (.aload_n 0, 1) := by decide +kernel
theorem dX3_run_63 : decode cX3_run 63 = .ok (.aload_n 0, 1) := by decide +kernel
theorem dX3_run_64 : decode cX3_run 64 = .ok (.invokevirtual 40, 3) := by decide +kernel
theorem dX3_run_67 : decode cX3_run 67 = .ok (.invokevirtual 44, 3) := by decide +kernel
theorem dX3_run_70 : decode cX3_run 70 = .ok (.iinc 3 1, 3) := by decide +kernel
theorem dX3_run_73 : decode cX3_run 73 = .ok (.aload_n 0, 1) := by decide +kernel
theorem dX3_run_74 : decode cX3_run 74 = .ok (.invokevirtual 37, 3) := by decide +kernel
theorem dX3_run_77 : decode cX3_run 77 = .ok (.iinc 4 1, 3) := by decide +kernel
theorem dX3_run_80 : decode cX3_run 80 = .ok (.goto (-44), 3) := by decide +kernel
theorem dX3_run_83 : decode cX3_run 83 = .ok (.aload_n 0, 1) := by decide +kernel
theorem dX3_run_84 : decode cX3_run 84 = .ok (.getfield 28, 3) := by decide +kernel
theorem dX3_run_87 : decode cX3_run 87 = .ok (.iconst (-1), 1) := by decide +kernel
theorem dX3_run_88 : decode cX3_run 88 = .ok (.if_icmp .ne 7, 3) := by decide +kernel
theorem dX3_run_91 : decode cX3_run 91 = .ok (.iload_n 3, 1) := by decide +kernel
theorem dX3_run_92 : decode cX3_run 92 = .ok (.goto 11, 3) := by decide +kernel
theorem dX3_run_95 : decode cX3_run 95 = .ok (.sipush (-2000), 3) := by decide +kernel
theorem dX3_run_98 : decode cX3_run 98 = .ok (.aload_n 0, 1) := by decide +kernel
theorem dX3_run_99 : decode cX3_run 99 = .ok (.getfield 28, 3) := by decide +kernel
theorem dX3_run_102 : decode cX3_run 102 = .ok (.isub, 1) := by decide +kernel
theorem dX3_run_103 : decode cX3_run 103 = .ok (.ireturn, 1) := by decide +kernel
theorem dX3_runCommand_0 : decode cX3_runCommand 0 = .ok (.iload_n 1, 1) := by decide +kernel
theorem dX3_runCommand_1 : decode cX3_runCommand 1 = .ok (.tableswitch 70 0 4 #[35, 42, 49, 56, 63], 35) := by decide +kernel
theorem dX3_runCommand_36 : decode cX3_runCommand 36 = .ok (.aload_n 0, 1) := by decide +kernel
theorem dX3_runCommand_37 : decode cX3_runCommand 37 = .ok (.invokevirtual 48, 3) := by decide +kernel
theorem dX3_runCommand_40 : decode cX3_runCommand 40 = .ok (.goto 31, 3) := by decide +kernel
theorem dX3_runCommand_43 : decode cX3_runCommand 43 = .ok (.aload_n 0, 1) := by decide +kernel
theorem dX3_runCommand_44 : decode cX3_runCommand 44 = .ok (.invokevirtual 51, 3) := by decide +kernel
theorem dX3_runCommand_47 : decode cX3_runCommand 47 = .ok (.goto 24, 3) := by decide +kernel
theorem dX3_runCommand_50 : decode cX3_runCommand 50 = .ok (.aload_n 0, 1) := by decide +kernel
theorem dX3_runCommand_51 : decode cX3_runCommand 51 = .ok (.invokevirtual 54, 3) := by decide +kernel
theorem dX3_runCommand_54 : decode cX3_runCommand 54 = .ok (.goto 17, 3) := by decide +kernel
theorem dX3_runCommand_57 : decode cX3_runCommand 57 = .ok (.aload_n 0, 1) := by decide +kernel
theorem dX3_runCommand_58 : decode cX3_runCommand 58 = .ok (.invokevirtual 57, 3) := by decide +kernel
theorem dX3_runCommand_61 : decode cX3_runCommand 61 = .ok (.goto 10, 3) := by decide +kernel
theorem dX3_runCommand_64 : decode cX3_runCommand 64 = .ok (.aload_n 0, 1) := by decide +kernel
theorem dX3_runCommand_65 : decode cX3_runCommand 65 = .ok (.invokevirtual 60, 3) := by decide +kernel
theorem dX3_runCommand_68 : decode cX3_runCommand 68 = .ok (.goto 3, 3) := by decide +kernel
theorem dX3_runCommand_71 : decode cX3_runCommand 71 = .ok (.return_, 1) := by decide +kernel
theorem dX3_runSet_0 : decode cX3_runSet 0 = .ok (.aload_n 0, 1) := by decide +kernel
theorem dX3_runSet_1 : decode cX3_runSet 1 = .ok (.iconst 0, 1) := by decide +kernel
theorem dX3_runSet_2 : decode cX3_runSet 2 = .ok (.invokevirtual 63, 3) := by decide +kernel
theorem dX3_runSet_5 : decode cX3_runSet 5 = .ok (.istore_n 1, 1) := by decide +kernel
theorem dX3_runSet_6 : decode cX3_runSet 6 = .ok (.aload_n 0, 1) := by decide +kernel
theorem dX3_runSet_7 : decode cX3_runSet 7 = .ok (.invokevirtual 67, 3) := by decide +kernel
theorem dX3_runSet_10 : decode cX3_runSet 10 = .ok (.istore_n 2, 1) := by decide +kernel
theorem dX3_runSet_11 : decode cX3_runSet 11 = .ok (.aload_n 0, 1) := by decide +kernel
theorem dX3_runSet_12 : decode cX3_runSet 12 = .ok (.invokevirtual 70, 3) := by decide +kernel
theorem dX3_runSet_15 : decode cX3_runSet 15 = .ok (.aload_n 0, 1) := by decide +kernel
theorem dX3_runSet_16 : decode cX3_runSet 16 = .ok (.getfield 28, 3) := by decide +kernel
theorem dX3_runSet_19 : decode cX3_runSet 19 = .ok (.iconst (-1), 1) := by decide +kernel
theorem dX3_runSet_20 : decode cX3_runSet 20 = .ok (.if_icmp .ne 10, 3) := by decide +kernel
theorem dX3_runSet_23 : decode cX3_runSet 23 = .ok (.aload_n 0, 1) := by decide +kernel
theorem dX3_runSet_24 : decode cX3_runSet 24 = .ok (.getfield 19, 3) := by decide +kernel
theorem dX3_runSet_27 : decode cX3_runSet 27 = .ok (.iload_n 1, 1) := by decide +kernel
theorem dX3_runSet_28 : decode cX3_runSet 28 = .ok (.iload_n 2, 1) := by decide +kernel
theorem dX3_runSet_29 : decode cX3_runSet 29 = .ok (.iastore, 1) := by decide +kernel
theorem dX3_runSet_30 : decode cX3_runSet 30 = .ok (.return_, 1) := by decide +kernel
theorem dX3_runAdd_0 : decode cX3_runAdd 0 = .ok (.aload_n 0, 1) := by decide +kernel
theorem dX3_runAdd_1 : decode cX3_runAdd 1 = .ok (.iconst 0, 1) := by decide +kernel
theorem dX3_runAdd_2 : decode cX3_runAdd 2 = .ok (.invokevirtual 63, 3) := by decide +kernel
theorem dX3_runAdd_5 : decode cX3_runAdd 5 = .ok (.istore_n 1, 1) := by decide +kernel
theorem dX3_runAdd_6 : decode cX3_runAdd 6 = .ok (.aload_n 0, 1) := by decide +kernel
theorem dX3_runAdd_7 : decode cX3_runAdd 7 = .ok (.invokevirtual 73, 3) := by decide +kernel
theorem dX3_runAdd_10 : decode cX3_runAdd 10 = .ok (.istore_n 2, 1) := by decide +kernel
theorem dX3_runAdd_11 : decode cX3_runAdd 11 = .ok (.aload_n 0, 1) := by decide +kernel
theorem dX3_runAdd_12 : decode cX3_runAdd 12 = .ok (.invokevirtual 70, 3) := by decide +kernel
theorem dX3_runAdd_15 : decode cX3_runAdd 15 = .ok (.aload_n 0, 1) := by decide +kernel
theorem dX3_runAdd_16 : decode cX3_runAdd 16 = .ok (.getfield 28, 3) := by decide +kernel
theorem dX3_runAdd_19 : decode cX3_runAdd 19 = .ok (.iconst (-1), 1) := by decide +kernel
theorem dX3_runAdd_20 : decode cX3_runAdd 20 = .ok (.if_icmp .ne 26, 3) := by decide +kernel
theorem dX3_runAdd_23 : decode cX3_runAdd 23 = .ok (.aload_n 0, 1) := by decide +kernel
theorem dX3_runAdd_24 : decode cX3_runAdd 24 = .ok (.getfield 19, 3) := by decide +kernel
theorem dX3_runAdd_27 : decode cX3_runAdd 27 = .ok (.iload_n 1, 1) := by decide +kernel
theorem dX3_runAdd_28 : decode cX3_runAdd 28 = .ok (.iconst 0, 1) := by decide +kernel
theorem dX3_runAdd_29 : decode cX3_runAdd 29 = .ok (.bipush 99, 2) := by decide +kernel
theorem dX3_runAdd_31 : decode cX3_runAdd 31 = .ok (.aload_n 0, 1) := by decide +kernel
theorem dX3_runAdd_32 : decode cX3_runAdd 32 = .ok (.getfield 19, 3) := by decide +kernel
theorem dX3_runAdd_35 : decode cX3_runAdd 35 = .ok (.iload_n 1, 1) := by decide +kernel
theorem dX3_runAdd_36 : decode cX3_runAdd 36 = .ok (.iaload, 1) := by decide +kernel
theorem dX3_runAdd_37 : decode cX3_runAdd 37 = .ok (.iload_n 2, 1) := by decide +kernel
theorem dX3_runAdd_38 : decode cX3_runAdd 38 = .ok (.iadd, 1) := by decide +kernel
theorem dX3_runAdd_39 : decode cX3_runAdd 39 = .ok (.invokestatic 76, 3) := by decide +kernel
theorem dX3_runAdd_42 : decode cX3_runAdd 42 = .ok (.invokestatic 82, 3) := by decide +kernel
theorem dX3_runAdd_45 : decode cX3_runAdd 45 = .ok (.iastore, 1) := by decide +kernel
theorem dX3_runAdd_46 : decode cX3_runAdd 46 = .ok (.return_, 1) := by decide +kernel
theorem dX3_runSwap_0 : decode cX3_runSwap 0 = .ok (.aload_n 0, 1) := by decide +kernel
theorem dX3_runSwap_1 : decode cX3_runSwap 1 = .ok (.iconst 0, 1) := by decide +kernel
theorem dX3_runSwap_2 : decode cX3_runSwap 2 = .ok (.invokevirtual 63, 3) := by decide +kernel
theorem dX3_runSwap_5 : decode cX3_runSwap 5 = .ok (.istore_n 1, 1) := by decide +kernel
theorem dX3_runSwap_6 : decode cX3_runSwap 6 = .ok (.aload_n 0, 1) := by decide +kernel
theorem dX3_runSwap_7 : decode cX3_runSwap 7 = .ok (.iconst 0, 1) := by decide +kernel
theorem dX3_runSwap_8 : decode cX3_runSwap 8 = .ok (.invokevirtual 63, 3) := by decide +kernel
theorem dX3_runSwap_11 : decode cX3_runSwap 11 = .ok (.istore_n 2, 1) := by decide +kernel
theorem dX3_runSwap_12 : decode cX3_runSwap 12 = .ok (.aload_n 0, 1) := by decide +kernel
theorem dX3_runSwap_13 : decode cX3_runSwap 13 = .ok (.invokevirtual 70, 3) := by decide +kernel
theorem dX3_runSwap_16 : decode cX3_runSwap 16 = .ok (.aload_n 0, 1) := by decide +kernel
theorem dX3_runSwap_17 : decode cX3_runSwap 17 = .ok (.getfield 28, 3) := by decide +kernel
theorem dX3_runSwap_20 : decode cX3_runSwap 20 = .ok (.iconst (-1), 1) := by decide +kernel
theorem dX3_runSwap_21 : decode cX3_runSwap 21 = .ok (.if_icmp .ne 29, 3) := by decide +kernel
theorem dX3_runSwap_24 : decode cX3_runSwap 24 = .ok (.aload_n 0, 1) := by decide +kernel
theorem dX3_runSwap_25 : decode cX3_runSwap 25 = .ok (.getfield 19, 3) := by decide +kernel
theorem dX3_runSwap_28 : decode cX3_runSwap 28 = .ok (.iload_n 1, 1) := by decide +kernel
theorem dX3_runSwap_29 : decode cX3_runSwap 29 = .ok (.iaload, 1) := by decide +kernel
theorem dX3_runSwap_30 : decode cX3_runSwap 30 = .ok (.istore_n 3, 1) := by decide +kernel
theorem dX3_runSwap_31 : decode cX3_runSwap 31 = .ok (.aload_n 0, 1) := by decide +kernel
theorem dX3_runSwap_32 : decode cX3_runSwap 32 = .ok (.getfield 19, 3) := by decide +kernel
theorem dX3_runSwap_35 : decode cX3_runSwap 35 = .ok (.iload_n 1, 1) := by decide +kernel
theorem dX3_runSwap_36 : decode cX3_runSwap 36 = .ok (.aload_n 0, 1) := by decide +kernel
theorem dX3_runSwap_37 : decode cX3_runSwap 37 = .ok (.getfield 19, 3) := by decide +kernel
theorem dX3_runSwap_40 : decode cX3_runSwap 40 = .ok (.iload_n 2, 1) := by decide +kernel
theorem dX3_runSwap_41 : decode cX3_runSwap 41 = .ok (.iaload, 1) := by decide +kernel
theorem dX3_runSwap_42 : decode cX3_runSwap 42 = .ok (.iastore, 1) := by decide +kernel
theorem dX3_runSwap_43 : decode cX3_runSwap 43 = .ok (.aload_n 0, 1) := by decide +kernel
theorem dX3_runSwap_44 : decode cX3_runSwap 44 = .ok (.getfield 19, 3) := by decide +kernel
theorem dX3_runSwap_47 : decode cX3_runSwap 47 = .ok (.iload_n 2, 1) := by decide +kernel
theorem dX3_runSwap_48 : decode cX3_runSwap 48 = .ok (.iload_n 3, 1) := by decide +kernel
theorem dX3_runSwap_49 : decode cX3_runSwap 49 = .ok (.iastore, 1) := by decide +kernel
theorem dX3_runSwap_50 : decode cX3_runSwap 50 = .ok (.return_, 1) := by decide +kernel
theorem dX3_runFill_0 : decode cX3_runFill 0 = .ok (.aload_n 0, 1) := by decide +kernel
theorem dX3_runFill_1 : decode cX3_runFill 1 = .ok (.iconst 0, 1) := by decide +kernel
theorem dX3_runFill_2 : decode cX3_runFill 2 = .ok (.invokevirtual 63, 3) := by decide +kernel
theorem dX3_runFill_5 : decode cX3_runFill 5 = .ok (.istore_n 1, 1) := by decide +kernel
theorem dX3_runFill_6 : decode cX3_runFill 6 = .ok (.aload_n 0, 1) := by decide +kernel
theorem dX3_runFill_7 : decode cX3_runFill 7 = .ok (.iload_n 1, 1) := by decide +kernel
theorem dX3_runFill_8 : decode cX3_runFill 8 = .ok (.invokevirtual 63, 3) := by decide +kernel
theorem dX3_runFill_11 : decode cX3_runFill 11 = .ok (.istore_n 2, 1) := by decide +kernel
theorem dX3_runFill_12 : decode cX3_runFill 12 = .ok (.aload_n 0, 1) := by decide +kernel
theorem dX3_runFill_13 : decode cX3_runFill 13 = .ok (.invokevirtual 67, 3) := by decide +kernel
theorem dX3_runFill_16 : decode cX3_runFill 16 = .ok (.istore_n 3, 1) := by decide +kernel
theorem dX3_runFill_17 : decode cX3_runFill 17 = .ok (.aload_n 0, 1) := by decide +kernel
theorem dX3_runFill_18 : decode cX3_runFill 18 = .ok (.invokevirtual 70, 3) := by decide +kernel
theorem dX3_runFill_21 : decode cX3_runFill 21 = .ok (.aload_n 0, 1) := by decide +kernel
theorem dX3_runFill_22 : decode cX3_runFill 22 = .ok (.getfield 28, 3) := by decide +kernel
theorem dX3_runFill_25 : decode cX3_runFill 25 = .ok (.iconst (-1), 1) := by decide +kernel
theorem dX3_runFill_26 : decode cX3_runFill 26 = .ok (.if_icmp .ne 26, 3) := by decide +kernel
theorem dX3_runFill_29 : decode cX3_runFill 29 = .ok (.iload_n 1, 1) := by decide +kernel
theorem dX3_runFill_30 : decode cX3_runFill 30 = .ok (.istore 4, 2) := by decide +kernel
theorem dX3_runFill_32 : decode cX3_runFill 32 = .ok (.iload 4, 2) := by decide +kernel
theorem dX3_runFill_34 : decode cX3_runFill 34 = .ok (.iload_n 2, 1) := by decide +kernel
theorem dX3_runFill_35 : decode cX3_runFill 35 = .ok (.if_icmp .gt 17, 3) := by decide +kernel
theorem dX3_runFill_38 : decode cX3_runFill 38 = .ok (.aload_n 0, 1) := by decide +kernel
theorem dX3_runFill_39 : decode cX3_runFill 39 = .ok (.getfield 19, 3) := by decide +kernel
theorem dX3_runFill_42 : decode cX3_runFill 42 = .ok (.iload 4, 2) := by decide +kernel
theorem dX3_runFill_44 : decode cX3_runFill 44 = .ok (.iload_n 3, 1) := by decide +kernel
theorem dX3_runFill_45 : decode cX3_runFill 45 = .ok (.iastore, 1) := by decide +kernel
theorem dX3_runFill_46 : decode cX3_runFill 46 = .ok (.iinc 4 1, 3) := by decide +kernel
theorem dX3_runFill_49 : decode cX3_runFill 49 = .ok (.goto (-17), 3) := by decide +kernel
theorem dX3_runFill_52 : decode cX3_runFill 52 = .ok (.return_, 1) := by decide +kernel
theorem dX3_runTurn_0 : decode cX3_runTurn 0 = .ok (.aload_n 0, 1) := by decide +kernel
theorem dX3_runTurn_1 : decode cX3_runTurn 1 = .ok (.iconst 0, 1) := by decide +kernel
theorem dX3_runTurn_2 : decode cX3_runTurn 2 = .ok (.invokevirtual 63, 3) := by decide +kernel
theorem dX3_runTurn_5 : decode cX3_runTurn 5 = .ok (.istore_n 1, 1) := by decide +kernel
theorem dX3_runTurn_6 : decode cX3_runTurn 6 = .ok (.aload_n 0, 1) := by decide +kernel
theorem dX3_runTurn_7 : decode cX3_runTurn 7 = .ok (.iload_n 1, 1) := by decide +kernel
theorem dX3_runTurn_8 : decode cX3_runTurn 8 = .ok (.invokevirtual 63, 3) := by decide +kernel
theorem dX3_runTurn_11 : decode cX3_runTurn 11 = .ok (.istore_n 2, 1) := by decide +kernel
theorem dX3_runTurn_12 : decode cX3_runTurn 12 = .ok (.aload_n 0, 1) := by decide +kernel
theorem dX3_runTurn_13 : decode cX3_runTurn 13 = .ok (.invokevirtual 70, 3) := by decide +kernel
theorem dX3_runTurn_16 : decode cX3_runTurn 16 = .ok (.aload_n 0, 1) := by decide +kernel
theorem dX3_runTurn_17 : decode cX3_runTurn 17 = .ok (.getfield 28, 3) := by decide +kernel
theorem dX3_runTurn_20 : decode cX3_runTurn 20 = .ok (.iconst (-1), 1) := by decide +kernel
theorem dX3_runTurn_21 : decode cX3_runTurn 21 = .ok (.if_icmp .ne 48, 3) := by decide +kernel
theorem dX3_runTurn_24 : decode cX3_runTurn 24 = .ok (.aload_n 0, 1) := by decide +kernel
theorem dX3_runTurn_25 : decode cX3_runTurn 25 = .ok (.getfield 19, 3) := by decide +kernel
theorem dX3_runTurn_28 : decode cX3_runTurn 28 = .ok (.iload_n 2, 1) := by decide +kernel
theorem dX3_runTurn_29 : decode cX3_runTurn 29 = .ok (.iaload, 1) := by decide +kernel
theorem dX3_runTurn_30 : decode cX3_runTurn 30 = .ok (.istore_n 3, 1) := by decide +kernel
theorem dX3_runTurn_31 : decode cX3_runTurn 31 = .ok (.iload_n 2, 1) := by decide +kernel
theorem dX3_runTurn_32 : decode cX3_runTurn 32 = .ok (.istore 4, 2) := by decide +kernel
theorem dX3_runTurn_34 : decode cX3_runTurn 34 = .ok (.iload 4, 2) := by decide +kernel
theorem dX3_runTurn_36 : decode cX3_runTurn 36 = .ok (.iload_n 1, 1) := by decide +kernel
theorem dX3_runTurn_37 : decode cX3_runTurn 37 = .ok (.if_icmp .le 25, 3) := by decide +kernel
theorem dX3_runTurn_40 : decode cX3_runTurn 40 = .ok (.aload_n 0, 1) := by decide +kernel
theorem dX3_runTurn_41 : decode cX3_runTurn 41 = .ok (.getfield 19, 3) := by decide +kernel
theorem dX3_runTurn_44 : decode cX3_runTurn 44 = .ok (.iload 4, 2) := by decide +kernel
theorem dX3_runTurn_46 : decode cX3_runTurn 46 = .ok (.aload_n 0, 1) := by decide +kernel
theorem dX3_runTurn_47 : decode cX3_runTurn 47 = .ok (.getfield 19, 3) := by decide +kernel
theorem dX3_runTurn_50 : decode cX3_runTurn 50 = .ok (.iload 4, 2) := by decide +kernel
theorem dX3_runTurn_52 : decode cX3_runTurn 52 = .ok (.iconst 1, 1) := by decide +kernel
theorem dX3_runTurn_53 : decode cX3_runTurn 53 = .ok (.isub, 1) := by decide +kernel
theorem dX3_runTurn_54 : decode cX3_runTurn 54 = .ok (.iaload, 1) := by decide +kernel
theorem dX3_runTurn_55 : decode cX3_runTurn 55 = .ok (.iastore, 1) := by decide +kernel
theorem dX3_runTurn_56 : decode cX3_runTurn 56 = .ok (.iinc 4 (-1), 3) := by decide +kernel
theorem dX3_runTurn_59 : decode cX3_runTurn 59 = .ok (.goto (-25), 3) := by decide +kernel
theorem dX3_runTurn_62 : decode cX3_runTurn 62 = .ok (.aload_n 0, 1) := by decide +kernel
theorem dX3_runTurn_63 : decode cX3_runTurn 63 = .ok (.getfield 19, 3) := by decide +kernel
theorem dX3_runTurn_66 : decode cX3_runTurn 66 = .ok (.iload_n 1, 1) := by decide +kernel
theorem dX3_runTurn_67 : decode cX3_runTurn 67 = .ok (.iload_n 3, 1) := by decide +kernel
theorem dX3_runTurn_68 : decode cX3_runTurn 68 = .ok (.iastore, 1) := by decide +kernel
theorem dX3_runTurn_69 : decode cX3_runTurn 69 = .ok (.return_, 1) := by decide +kernel
theorem dX3_failAt_0 : decode cX3_failAt 0 = .ok (.aload_n 0, 1) := by decide +kernel
theorem dX3_failAt_1 : decode cX3_failAt 1 = .ok (.getfield 28, 3) := by decide +kernel
theorem dX3_failAt_4 : decode cX3_failAt 4 = .ok (.iconst (-1), 1) := by decide +kernel
theorem dX3_failAt_5 : decode cX3_failAt 5 = .ok (.if_icmp .ne 8, 3) := by decide +kernel
theorem dX3_failAt_8 : decode cX3_failAt 8 = .ok (.aload_n 0, 1) := by decide +kernel
theorem dX3_failAt_9 : decode cX3_failAt 9 = .ok (.iload_n 1, 1) := by decide +kernel
theorem dX3_failAt_10 : decode cX3_failAt 10 = .ok (.putfield 28, 3) := by decide +kernel
theorem dX3_failAt_13 : decode cX3_failAt 13 = .ok (.return_, 1) := by decide +kernel
theorem dX3_isDigitNext_0 : decode cX3_isDigitNext 0 = .ok (.aload_n 0, 1) := by decide +kernel
theorem dX3_isDigitNext_1 : decode cX3_isDigitNext 1 = .ok (.getfield 25, 3) := by decide +kernel
theorem dX3_isDigitNext_4 : decode cX3_isDigitNext 4 = .ok (.aload_n 0, 1) := by decide +kernel
theorem dX3_isDigitNext_5 : decode cX3_isDigitNext 5 = .ok (.getfield 15, 3) := by decide +kernel
theorem dX3_isDigitNext_8 : decode cX3_isDigitNext 8 = .ok (.if_icmp .ge 35, 3) := by decide +kernel
theorem dX3_isDigitNext_11 : decode cX3_isDigitNext 11 = .ok (.aload_n 0, 1) := by decide +kernel
theorem dX3_isDigitNext_12 : decode cX3_isDigitNext 12 = .ok (.getfield 9, 3) := by decide +kernel
theorem dX3_isDigitNext_15 : decode cX3_isDigitNext 15 = .ok (.aload_n 0, 1) := by decide +kernel
theorem dX3_isDigitNext_16 : decode cX3_isDigitNext 16 = .ok (.getfield 25, 3) := by decide +kernel
theorem dX3_isDigitNext_19 : decode cX3_isDigitNext 19 = .ok (.iaload, 1) := by decide +kernel
theorem dX3_isDigitNext_20 : decode cX3_isDigitNext 20 = .ok (.bipush 48, 2) := by decide +kernel
theorem dX3_isDigitNext_22 : decode cX3_isDigitNext 22 = .ok (.if_icmp .lt 21, 3) := by decide +kernel
theorem dX3_isDigitNext_25 : decode cX3_isDigitNext 25 = .ok (.aload_n 0, 1) := by decide +kernel
theorem dX3_isDigitNext_26 : decode cX3_isDigitNext 26 = .ok (.getfield 9, 3) := by decide +kernel
theorem dX3_isDigitNext_29 : decode cX3_isDigitNext 29 = .ok (.aload_n 0, 1) := by decide +kernel
theorem dX3_isDigitNext_30 : decode cX3_isDigitNext 30 = .ok (.getfield 25, 3) := by decide +kernel
theorem dX3_isDigitNext_33 : decode cX3_isDigitNext 33 = .ok (.iaload, 1) := by decide +kernel
theorem dX3_isDigitNext_34 : decode cX3_isDigitNext 34 = .ok (.bipush 57, 2) := by decide +kernel
theorem dX3_isDigitNext_36 : decode cX3_isDigitNext 36 = .ok (.if_icmp .gt 7, 3) := by decide +kernel
theorem dX3_isDigitNext_39 : decode cX3_isDigitNext 39 = .ok (.iconst 1, 1) := by decide +kernel
theorem dX3_isDigitNext_40 : decode cX3_isDigitNext 40 = .ok (.goto 4, 3) := by decide +kernel
theorem dX3_isDigitNext_43 : decode cX3_isDigitNext 43 = .ok (.iconst 0, 1) := by decide +kernel
theorem dX3_isDigitNext_44 : decode cX3_isDigitNext 44 = .ok (.ireturn, 1) := by decide +kernel
theorem dX3_isLetterNext_0 : decode cX3_isLetterNext 0 = .ok (.aload_n 0, 1) := by decide +kernel
theorem dX3_isLetterNext_1 : decode cX3_isLetterNext 1 = .ok (.getfield 25, 3) := by decide +kernel
theorem dX3_isLetterNext_4 : decode cX3_isLetterNext 4 = .ok (.aload_n 0, 1) := by decide +kernel
theorem dX3_isLetterNext_5 : decode cX3_isLetterNext 5 = .ok (.getfield 15, 3) := by decide +kernel
theorem dX3_isLetterNext_8 : decode cX3_isLetterNext 8 = .ok (.if_icmp .ge 35, 3) := by decide +kernel
theorem dX3_isLetterNext_11 : decode cX3_isLetterNext 11 = .ok (.aload_n 0, 1) := by decide +kernel
theorem dX3_isLetterNext_12 : decode cX3_isLetterNext 12 = .ok (.getfield 9, 3) := by decide +kernel
theorem dX3_isLetterNext_15 : decode cX3_isLetterNext 15 = .ok (.aload_n 0, 1) := by decide +kernel
theorem dX3_isLetterNext_16 : decode cX3_isLetterNext 16 = .ok (.getfield 25, 3) := by decide +kernel
theorem dX3_isLetterNext_19 : decode cX3_isLetterNext 19 = .ok (.iaload, 1) := by decide +kernel
theorem dX3_isLetterNext_20 : decode cX3_isLetterNext 20 = .ok (.bipush 97, 2) := by decide +kernel
theorem dX3_isLetterNext_22 : decode cX3_isLetterNext 22 = .ok (.if_icmp .lt 21, 3) := by decide +kernel
theorem dX3_isLetterNext_25 : decode cX3_isLetterNext 25 = .ok (.aload_n 0, 1) := by decide +kernel
theorem dX3_isLetterNext_26 : decode cX3_isLetterNext 26 = .ok (.getfield 9, 3) := by decide +kernel
theorem dX3_isLetterNext_29 : decode cX3_isLetterNext 29 = .ok (.aload_n 0, 1) := by decide +kernel
theorem dX3_isLetterNext_30 : decode cX3_isLetterNext 30 = .ok (.getfield 25, 3) := by decide +kernel
theorem dX3_isLetterNext_33 : decode cX3_isLetterNext 33 = .ok (.iaload, 1) := by decide +kernel
theorem dX3_isLetterNext_34 : decode cX3_isLetterNext 34 = .ok (.bipush 122, 2) := by decide +kernel
theorem dX3_isLetterNext_36 : decode cX3_isLetterNext 36 = .ok (.if_icmp .gt 7, 3) := by decide +kernel
theorem dX3_isLetterNext_39 : decode cX3_isLetterNext 39 = .ok (.iconst 1, 1) := by decide +kernel
theorem dX3_isLetterNext_40 : decode cX3_isLetterNext 40 = .ok (.goto 4, 3) := by decide +kernel
theorem dX3_isLetterNext_43 : decode cX3_isLetterNext 43 = .ok (.iconst 0, 1) := by decide +kernel
theorem dX3_isLetterNext_44 : decode cX3_isLetterNext 44 = .ok (.ireturn, 1) := by decide +kernel
theorem dX3_isNext_0 : decode cX3_isNext 0 = .ok (.aload_n 0, 1) := by decide +kernel
theorem dX3_isNext_1 : decode cX3_isNext 1 = .ok (.getfield 25, 3) := by decide +kernel
theorem dX3_isNext_4 : decode cX3_isNext 4 = .ok (.aload_n 0, 1) := by decide +kernel
theorem dX3_isNext_5 : decode cX3_isNext 5 = .ok (.getfield 15, 3) := by decide +kernel
theorem dX3_isNext_8 : decode cX3_isNext 8 = .ok (.if_icmp .ge 20, 3) := by decide +kernel
theorem dX3_isNext_11 : decode cX3_isNext 11 = .ok (.aload_n 0, 1) := by decide +kernel
theorem dX3_isNext_12 : decode cX3_isNext 12 = .ok (.getfield 9, 3) := by decide +kernel
theorem dX3_isNext_15 : decode cX3_isNext 15 = .ok (.aload_n 0, 1) := by decide +kernel
theorem dX3_isNext_16 : decode cX3_isNext 16 = .ok (.getfield 25, 3) := by decide +kernel
theorem dX3_isNext_19 : decode cX3_isNext 19 = .ok (.iaload, 1) := by decide +kernel
theorem dX3_isNext_20 : decode cX3_isNext 20 = .ok (.iload_n 1, 1) := by decide +kernel
theorem dX3_isNext_21 : decode cX3_isNext 21 = .ok (.if_icmp .ne 7, 3) := by decide +kernel
theorem dX3_isNext_24 : decode cX3_isNext 24 = .ok (.iconst 1, 1) := by decide +kernel
theorem dX3_isNext_25 : decode cX3_isNext 25 = .ok (.goto 4, 3) := by decide +kernel
theorem dX3_isNext_28 : decode cX3_isNext 28 = .ok (.iconst 0, 1) := by decide +kernel
theorem dX3_isNext_29 : decode cX3_isNext 29 = .ok (.ireturn, 1) := by decide +kernel
theorem dX3_skipBlanks_0 : decode cX3_skipBlanks 0 = .ok (.aload_n 0, 1) := by decide +kernel
theorem dX3_skipBlanks_1 : decode cX3_skipBlanks 1 = .ok (.getfield 25, 3) := by decide +kernel
theorem dX3_skipBlanks_4 : decode cX3_skipBlanks 4 = .ok (.aload_n 0, 1) := by decide +kernel
theorem dX3_skipBlanks_5 : decode cX3_skipBlanks 5 = .ok (.getfield 15, 3) := by decide +kernel
theorem dX3_skipBlanks_8 : decode cX3_skipBlanks 8 = .ok (.if_icmp .ge 30, 3) := by decide +kernel
theorem dX3_skipBlanks_11 : decode cX3_skipBlanks 11 = .ok (.aload_n 0, 1) := by decide +kernel
theorem dX3_skipBlanks_12 : decode cX3_skipBlanks 12 = .ok (.getfield 9, 3) := by decide +kernel
theorem dX3_skipBlanks_15 : decode cX3_skipBlanks 15 = .ok (.aload_n 0, 1) := by decide +kernel
theorem dX3_skipBlanks_16 : decode cX3_skipBlanks 16 = .ok (.getfield 25, 3) := by decide +kernel
theorem dX3_skipBlanks_19 : decode cX3_skipBlanks 19 = .ok (.iaload, 1) := by decide +kernel
theorem dX3_skipBlanks_20 : decode cX3_skipBlanks 20 = .ok (.bipush 32, 2) := by decide +kernel
theorem dX3_skipBlanks_22 : decode cX3_skipBlanks 22 = .ok (.if_icmp .ne 16, 3) := by decide +kernel
theorem dX3_skipBlanks_25 : decode cX3_skipBlanks 25 = .ok (.aload_n 0, 1) := by decide +kernel
theorem dX3_skipBlanks_26 : decode cX3_skipBlanks 26 = .ok (.dup, 1) := by decide +kernel
theorem dX3_skipBlanks_27 : decode cX3_skipBlanks 27 = .ok (.getfield 25, 3) := by decide +kernel
theorem dX3_skipBlanks_30 : decode cX3_skipBlanks 30 = .ok (.iconst 1, 1) := by decide +kernel
theorem dX3_skipBlanks_31 : decode cX3_skipBlanks 31 = .ok (.iadd, 1) := by decide +kernel
theorem dX3_skipBlanks_32 : decode cX3_skipBlanks 32 = .ok (.putfield 25, 3) := by decide +kernel
theorem dX3_skipBlanks_35 : decode cX3_skipBlanks 35 = .ok (.goto (-35), 3) := by decide +kernel
theorem dX3_skipBlanks_38 : decode cX3_skipBlanks 38 = .ok (.return_, 1) := by decide +kernel
theorem dX3_takeWord_0 : decode cX3_takeWord 0 = .ok (.aload_n 0, 1) := by decide +kernel
theorem dX3_takeWord_1 : decode cX3_takeWord 1 = .ok (.getfield 25, 3) := by decide +kernel
theorem dX3_takeWord_4 : decode cX3_takeWord 4 = .ok (.istore_n 1, 1) := by decide +kernel
theorem dX3_takeWord_5 : decode cX3_takeWord 5 = .ok (.aload_n 0, 1) := by decide +kernel
theorem dX3_takeWord_6 : decode cX3_takeWord 6 = .ok (.getfield 25, 3) := by decide +kernel
theorem dX3_takeWord_9 : decode cX3_takeWord 9 = .ok (.aload_n 0, 1) := by decide +kernel
theorem dX3_takeWord_10 : decode cX3_takeWord 10 = .ok (.getfield 15, 3) := by decide +kernel
theorem dX3_takeWord_13 : decode cX3_takeWord 13 = .ok (.if_icmp .ge 23, 3) := by decide +kernel
theorem dX3_takeWord_16 : decode cX3_takeWord 16 = .ok (.aload_n 0, 1) := by decide +kernel
theorem dX3_takeWord_17 : decode cX3_takeWord 17 = .ok (.invokevirtual 85, 3) := by decide +kernel
theorem dX3_takeWord_20 : decode cX3_takeWord 20 = .ok (.ifCond .eq 16, 3) := by decide +kernel
theorem dX3_takeWord_23 : decode cX3_takeWord 23 = .ok (.aload_n 0, 1) := by decide +kernel
theorem dX3_takeWord_24 : decode cX3_takeWord 24 = .ok (.dup, 1) := by decide +kernel
theorem dX3_takeWord_25 : decode cX3_takeWord 25 = .ok (.getfield 25, 3) := by decide +kernel
theorem dX3_takeWord_28 : decode cX3_takeWord 28 = .ok (.iconst 1, 1) := by decide +kernel
theorem dX3_takeWord_29 : decode cX3_takeWord 29 = .ok (.iadd, 1) := by decide +kernel
theorem dX3_takeWord_30 : decode cX3_takeWord 30 = .ok (.putfield 25, 3) := by decide +kernel
theorem dX3_takeWord_33 : decode cX3_takeWord 33 = .ok (.goto (-28), 3) := by decide +kernel
theorem dX3_takeWord_36 : decode cX3_takeWord 36 = .ok (.aload_n 0, 1) := by decide +kernel
theorem dX3_takeWord_37 : decode cX3_takeWord 37 = .ok (.iload_n 1, 1) := by decide +kernel
theorem dX3_takeWord_38 : decode cX3_takeWord 38 = .ok (.invokevirtual 89, 3) := by decide +kernel
theorem dX3_takeWord_41 : decode cX3_takeWord 41 = .ok (.istore_n 2, 1) := by decide +kernel
theorem dX3_takeWord_42 : decode cX3_takeWord 42 = .ok (.iload_n 2, 1) := by decide +kernel
theorem dX3_takeWord_43 : decode cX3_takeWord 43 = .ok (.iconst (-1), 1) := by decide +kernel
theorem dX3_takeWord_44 : decode cX3_takeWord 44 = .ok (.if_icmp .ne 8, 3) := by decide +kernel
theorem dX3_takeWord_47 : decode cX3_takeWord 47 = .ok (.aload_n 0, 1) := by decide +kernel
theorem dX3_takeWord_48 : decode cX3_takeWord 48 = .ok (.iload_n 1, 1) := by decide +kernel
theorem dX3_takeWord_49 : decode cX3_takeWord 49 = .ok (.invokevirtual 92, 3) := by decide +kernel
theorem dX3_takeWord_52 : decode cX3_takeWord 52 = .ok (.iload_n 2, 1) := by decide +kernel
theorem dX3_takeWord_53 : decode cX3_takeWord 53 = .ok (.ireturn, 1) := by decide +kernel
theorem dX3_wordAt_0 : decode cX3_wordAt 0 = .ok (.aload_n 0, 1) := by decide +kernel
theorem dX3_wordAt_1 : decode cX3_wordAt 1 = .ok (.ldc 95, 2) := by decide +kernel
theorem dX3_wordAt_3 : decode cX3_wordAt 3 = .ok (.iload_n 1, 1) := by decide +kernel
theorem dX3_wordAt_4 : decode cX3_wordAt 4 = .ok (.invokevirtual 97, 3) := by decide +kernel
theorem dX3_wordAt_7 : decode cX3_wordAt 7 = .ok (.ifCond .eq 5, 3) := by decide +kernel
theorem dX3_wordAt_10 : decode cX3_wordAt 10 = .ok (.iconst 0, 1) := by decide +kernel
theorem dX3_wordAt_11 : decode cX3_wordAt 11 = .ok (.ireturn, 1) := by decide +kernel
theorem dX3_wordAt_12 : decode cX3_wordAt 12 = .ok (.aload_n 0, 1) := by decide +kernel
theorem dX3_wordAt_13 : decode cX3_wordAt 13 = .ok (.ldc 101, 2) := by decide +kernel
theorem dX3_wordAt_15 : decode cX3_wordAt 15 = .ok (.iload_n 1, 1) := by decide +kernel
theorem dX3_wordAt_16 : decode cX3_wordAt 16 = .ok (.invokevirtual 97, 3) := by decide +kernel
theorem dX3_wordAt_19 : decode cX3_wordAt 19 = .ok (.ifCond .eq 5, 3) := by decide +kernel
theorem dX3_wordAt_22 : decode cX3_wordAt 22 = .ok (.iconst 1, 1) := by decide +kernel
theorem dX3_wordAt_23 : decode cX3_wordAt 23 = .ok (.ireturn, 1) := by decide +kernel
theorem dX3_wordAt_24 : decode cX3_wordAt 24 = .ok (.aload_n 0, 1) := by decide +kernel
theorem dX3_wordAt_25 : decode cX3_wordAt 25 = .ok (.ldc 103, 2) := by decide +kernel
theorem dX3_wordAt_27 : decode cX3_wordAt 27 = .ok (.iload_n 1, 1) := by decide +kernel
theorem dX3_wordAt_28 : decode cX3_wordAt 28 = .ok (.invokevirtual 97, 3) := by decide +kernel
theorem dX3_wordAt_31 : decode cX3_wordAt 31 = .ok (.ifCond .eq 5, 3) := by decide +kernel
theorem dX3_wordAt_34 : decode cX3_wordAt 34 = .ok (.iconst 2, 1) := by decide +kernel
theorem dX3_wordAt_35 : decode cX3_wordAt 35 = .ok (.ireturn, 1) := by decide +kernel
theorem dX3_wordAt_36 : decode cX3_wordAt 36 = .ok (.aload_n 0, 1) := by decide +kernel
theorem dX3_wordAt_37 : decode cX3_wordAt 37 = .ok (.ldc 105, 2) := by decide +kernel
theorem dX3_wordAt_39 : decode cX3_wordAt 39 = .ok (.iload_n 1, 1) := by decide +kernel
theorem dX3_wordAt_40 : decode cX3_wordAt 40 = .ok (.invokevirtual 97, 3) := by decide +kernel
theorem dX3_wordAt_43 : decode cX3_wordAt 43 = .ok (.ifCond .eq 5, 3) := by decide +kernel
theorem dX3_wordAt_46 : decode cX3_wordAt 46 = .ok (.iconst 3, 1) := by decide +kernel
theorem dX3_wordAt_47 : decode cX3_wordAt 47 = .ok (.ireturn, 1) := by decide +kernel
theorem dX3_wordAt_48 : decode cX3_wordAt 48 = .ok (.aload_n 0, 1) := by decide +kernel
theorem dX3_wordAt_49 : decode cX3_wordAt 49 = .ok (.ldc 107, 2) := by decide +kernel
theorem dX3_wordAt_51 : decode cX3_wordAt 51 = .ok (.iload_n 1, 1) := by decide +kernel
theorem dX3_wordAt_52 : decode cX3_wordAt 52 = .ok (.invokevirtual 97, 3) := by decide +kernel
theorem dX3_wordAt_55 : decode cX3_wordAt 55 = .ok (.ifCond .eq 7, 3) := by decide +kernel
theorem dX3_wordAt_58 : decode cX3_wordAt 58 = .ok (.iconst 4, 1) := by decide +kernel
theorem dX3_wordAt_59 : decode cX3_wordAt 59 = .ok (.goto 4, 3) := by decide +kernel
theorem dX3_wordAt_62 : decode cX3_wordAt 62 = .ok (.iconst (-1), 1) := by decide +kernel
theorem dX3_wordAt_63 : decode cX3_wordAt 63 = .ok (.ireturn, 1) := by decide +kernel
theorem dX3_isSpelled_0 : decode cX3_isSpelled 0 = .ok (.aload_n 0, 1) := by decide +kernel
theorem dX3_isSpelled_1 : decode cX3_isSpelled 1 = .ok (.getfield 25, 3) := by decide +kernel
theorem dX3_isSpelled_4 : decode cX3_isSpelled 4 = .ok (.iload_n 2, 1) := by decide +kernel
theorem dX3_isSpelled_5 : decode cX3_isSpelled 5 = .ok (.isub, 1) := by decide +kernel
theorem dX3_isSpelled_6 : decode cX3_isSpelled 6 = .ok (.aload_n 1, 1) := by decide +kernel
theorem dX3_isSpelled_7 : decode cX3_isSpelled 7 = .ok (.invokevirtual 109, 3) := by decide +kernel
theorem dX3_isSpelled_10 : decode cX3_isSpelled 10 = .ok (.if_icmp .eq 5, 3) := by decide +kernel
theorem dX3_isSpelled_13 : decode cX3_isSpelled 13 = .ok (.iconst 0, 1) := by decide +kernel
theorem dX3_isSpelled_14 : decode cX3_isSpelled 14 = .ok (.ireturn, 1) := by decide +kernel
theorem dX3_isSpelled_15 : decode cX3_isSpelled 15 = .ok (.iconst 0, 1) := by decide +kernel
theorem dX3_isSpelled_16 : decode cX3_isSpelled 16 = .ok (.istore_n 3, 1) := by decide +kernel
theorem dX3_isSpelled_17 : decode cX3_isSpelled 17 = .ok (.iload_n 3, 1) := by decide +kernel
theorem dX3_isSpelled_18 : decode cX3_isSpelled 18 = .ok (.aload_n 1, 1) := by decide +kernel
theorem dX3_isSpelled_19 : decode cX3_isSpelled 19 = .ok (.invokevirtual 109, 3) := by decide +kernel
theorem dX3_isSpelled_22 : decode cX3_isSpelled 22 = .ok (.if_icmp .ge 27, 3) := by decide +kernel
theorem dX3_isSpelled_25 : decode cX3_isSpelled 25 = .ok (.aload_n 0, 1) := by decide +kernel
theorem dX3_isSpelled_26 : decode cX3_isSpelled 26 = .ok (.getfield 9, 3) := by decide +kernel
theorem dX3_isSpelled_29 : decode cX3_isSpelled 29 = .ok (.iload_n 2, 1) := by decide +kernel
theorem dX3_isSpelled_30 : decode cX3_isSpelled 30 = .ok (.iload_n 3, 1) := by decide +kernel
theorem dX3_isSpelled_31 : decode cX3_isSpelled 31 = .ok (.iadd, 1) := by decide +kernel
theorem dX3_isSpelled_32 : decode cX3_isSpelled 32 = .ok (.iaload, 1) := by decide +kernel
theorem dX3_isSpelled_33 : decode cX3_isSpelled 33 = .ok (.aload_n 1, 1) := by decide +kernel
theorem dX3_isSpelled_34 : decode cX3_isSpelled 34 = .ok (.iload_n 3, 1) := by decide +kernel
theorem dX3_isSpelled_35 : decode cX3_isSpelled 35 = .ok (.invokevirtual 113, 3) := by decide +kernel
theorem dX3_isSpelled_38 : decode cX3_isSpelled 38 = .ok (.if_icmp .eq 5, 3) := by decide +kernel
theorem dX3_isSpelled_41 : decode cX3_isSpelled 41 = .ok (.iconst 0, 1) := by decide +kernel
theorem dX3_isSpelled_42 : decode cX3_isSpelled 42 = .ok (.ireturn, 1) := by decide +kernel
theorem dX3_isSpelled_43 : decode cX3_isSpelled 43 = .ok (.iinc 3 1, 3) := by decide +kernel
theorem dX3_isSpelled_46 : decode cX3_isSpelled 46 = .ok (.goto (-29), 3) := by decide +kernel
theorem dX3_isSpelled_49 : decode cX3_isSpelled 49 = .ok (.iconst 1, 1) := by decide +kernel
theorem dX3_isSpelled_50 : decode cX3_isSpelled 50 = .ok (.ireturn, 1) := by decide +kernel
theorem dX3_takeIndex_0 : decode cX3_takeIndex 0 = .ok (.aload_n 0, 1) := by decide +kernel
theorem dX3_takeIndex_1 : decode cX3_takeIndex 1 = .ok (.invokevirtual 37, 3) := by decide +kernel
theorem dX3_takeIndex_4 : decode cX3_takeIndex 4 = .ok (.aload_n 0, 1) := by decide +kernel
theorem dX3_takeIndex_5 : decode cX3_takeIndex 5 = .ok (.getfield 25, 3) := by decide +kernel
theorem dX3_takeIndex_8 : decode cX3_takeIndex 8 = .ok (.istore_n 2, 1) := by decide +kernel
theorem dX3_takeIndex_9 : decode cX3_takeIndex 9 = .ok (.aload_n 0, 1) := by decide +kernel
theorem dX3_takeIndex_10 : decode cX3_takeIndex 10 = .ok (.invokevirtual 117, 3) := by decide +kernel
theorem dX3_takeIndex_13 : decode cX3_takeIndex 13 = .ok (.istore_n 3, 1) := by decide +kernel
theorem dX3_takeIndex_14 : decode cX3_takeIndex 14 = .ok (.iload_n 3, 1) := by decide +kernel
theorem dX3_takeIndex_15 : decode cX3_takeIndex 15 = .ok (.iload_n 1, 1) := by decide +kernel
theorem dX3_takeIndex_16 : decode cX3_takeIndex 16 = .ok (.if_icmp .lt 11, 3) := by decide +kernel
theorem dX3_takeIndex_19 : decode cX3_takeIndex 19 = .ok (.iload_n 3, 1) := by decide +kernel
theorem dX3_takeIndex_20 : decode cX3_takeIndex 20 = .ok (.aload_n 0, 1) := by decide +kernel
theorem dX3_takeIndex_21 : decode cX3_takeIndex 21 = .ok (.getfield 22, 3) := by decide +kernel
theorem dX3_takeIndex_24 : decode cX3_takeIndex 24 = .ok (.if_icmp .lt 8, 3) := by decide +kernel
theorem dX3_takeIndex_27 : decode cX3_takeIndex 27 = .ok (.aload_n 0, 1) := by decide +kernel
theorem dX3_takeIndex_28 : decode cX3_takeIndex 28 = .ok (.iload_n 2, 1) := by decide +kernel
theorem dX3_takeIndex_29 : decode cX3_takeIndex 29 = .ok (.invokevirtual 92, 3) := by decide +kernel
theorem dX3_takeIndex_32 : decode cX3_takeIndex 32 = .ok (.aload_n 0, 1) := by decide +kernel
theorem dX3_takeIndex_33 : decode cX3_takeIndex 33 = .ok (.invokevirtual 120, 3) := by decide +kernel
theorem dX3_takeIndex_36 : decode cX3_takeIndex 36 = .ok (.ifCond .eq 11, 3) := by decide +kernel
theorem dX3_takeIndex_39 : decode cX3_takeIndex 39 = .ok (.aload_n 0, 1) := by decide +kernel
theorem dX3_takeIndex_40 : decode cX3_takeIndex 40 = .ok (.aload_n 0, 1) := by decide +kernel
theorem dX3_takeIndex_41 : decode cX3_takeIndex 41 = .ok (.getfield 25, 3) := by decide +kernel
theorem dX3_takeIndex_44 : decode cX3_takeIndex 44 = .ok (.invokevirtual 92, 3) := by decide +kernel
theorem dX3_takeIndex_47 : decode cX3_takeIndex 47 = .ok (.aload_n 0, 1) := by decide +kernel
theorem dX3_takeIndex_48 : decode cX3_takeIndex 48 = .ok (.getfield 28, 3) := by decide +kernel
theorem dX3_takeIndex_51 : decode cX3_takeIndex 51 = .ok (.iconst (-1), 1) := by decide +kernel
theorem dX3_takeIndex_52 : decode cX3_takeIndex 52 = .ok (.if_icmp .ne 7, 3) := by decide +kernel
theorem dX3_takeIndex_55 : decode cX3_takeIndex 55 = .ok (.iload_n 3, 1) := by decide +kernel
theorem dX3_takeIndex_56 : decode cX3_takeIndex 56 = .ok (.goto 4, 3) := by decide +kernel
theorem dX3_takeIndex_59 : decode cX3_takeIndex 59 = .ok (.iconst 0, 1) := by decide +kernel
theorem dX3_takeIndex_60 : decode cX3_takeIndex 60 = .ok (.ireturn, 1) := by decide +kernel
theorem dX3_takeNumber_0 : decode cX3_takeNumber 0 = .ok (.aload_n 0, 1) := by decide +kernel
theorem dX3_takeNumber_1 : decode cX3_takeNumber 1 = .ok (.invokevirtual 37, 3) := by decide +kernel
theorem dX3_takeNumber_4 : decode cX3_takeNumber 4 = .ok (.aload_n 0, 1) := by decide +kernel
theorem dX3_takeNumber_5 : decode cX3_takeNumber 5 = .ok (.invokevirtual 117, 3) := by decide +kernel
theorem dX3_takeNumber_8 : decode cX3_takeNumber 8 = .ok (.ireturn, 1) := by decide +kernel
theorem dX3_takeAmount_0 : decode cX3_takeAmount 0 = .ok (.aload_n 0, 1) := by decide +kernel
theorem dX3_takeAmount_1 : decode cX3_takeAmount 1 = .ok (.invokevirtual 37, 3) := by decide +kernel
theorem dX3_takeAmount_4 : decode cX3_takeAmount 4 = .ok (.aload_n 0, 1) := by decide +kernel
theorem dX3_takeAmount_5 : decode cX3_takeAmount 5 = .ok (.bipush 45, 2) := by decide +kernel
theorem dX3_takeAmount_7 : decode cX3_takeAmount 7 = .ok (.invokevirtual 123, 3) := by decide +kernel
theorem dX3_takeAmount_10 : decode cX3_takeAmount 10 = .ok (.ifCond .ne 8, 3) := by decide +kernel
theorem dX3_takeAmount_13 : decode cX3_takeAmount 13 = .ok (.aload_n 0, 1) := by decide +kernel
theorem dX3_takeAmount_14 : decode cX3_takeAmount 14 = .ok (.invokevirtual 67, 3) := by decide +kernel
theorem dX3_takeAmount_17 : decode cX3_takeAmount 17 = .ok (.ireturn, 1) := by decide +kernel
theorem dX3_takeAmount_18 : decode cX3_takeAmount 18 = .ok (.aload_n 0, 1) := by decide +kernel
theorem dX3_takeAmount_19 : decode cX3_takeAmount 19 = .ok (.dup, 1) := by decide +kernel
theorem dX3_takeAmount_20 : decode cX3_takeAmount 20 = .ok (.getfield 25, 3) := by decide +kernel
theorem dX3_takeAmount_23 : decode cX3_takeAmount 23 = .ok (.iconst 1, 1) := by decide +kernel
theorem dX3_takeAmount_24 : decode cX3_takeAmount 24 = .ok (.iadd, 1) := by decide +kernel
theorem dX3_takeAmount_25 : decode cX3_takeAmount 25 = .ok (.putfield 25, 3) := by decide +kernel
theorem dX3_takeAmount_28 : decode cX3_takeAmount 28 = .ok (.aload_n 0, 1) := by decide +kernel
theorem dX3_takeAmount_29 : decode cX3_takeAmount 29 = .ok (.invokevirtual 117, 3) := by decide +kernel
theorem dX3_takeAmount_32 : decode cX3_takeAmount 32 = .ok (.ineg, 1) := by decide +kernel
theorem dX3_takeAmount_33 : decode cX3_takeAmount 33 = .ok (.ireturn, 1) := by decide +kernel
theorem dX3_takeDigits_0 : decode cX3_takeDigits 0 = .ok (.aload_n 0, 1) := by decide +kernel
theorem dX3_takeDigits_1 : decode cX3_takeDigits 1 = .ok (.invokevirtual 120, 3) := by decide +kernel
theorem dX3_takeDigits_4 : decode cX3_takeDigits 4 = .ok (.ifCond .ne 13, 3) := by decide +kernel
theorem dX3_takeDigits_7 : decode cX3_takeDigits 7 = .ok (.aload_n 0, 1) := by decide +kernel
theorem dX3_takeDigits_8 : decode cX3_takeDigits 8 = .ok (.aload_n 0, 1) := by decide +kernel
theorem dX3_takeDigits_9 : decode cX3_takeDigits 9 = .ok (.getfield 25, 3) := by decide +kernel
theorem dX3_takeDigits_12 : decode cX3_takeDigits 12 = .ok (.invokevirtual 92, 3) := by decide +kernel
theorem dX3_takeDigits_15 : decode cX3_takeDigits 15 = .ok (.iconst 0, 1) := by decide +kernel
theorem dX3_takeDigits_16 : decode cX3_takeDigits 16 = .ok (.ireturn, 1) := by decide +kernel
theorem dX3_takeDigits_17 : decode cX3_takeDigits 17 = .ok (.aload_n 0, 1) := by decide +kernel
theorem dX3_takeDigits_18 : decode cX3_takeDigits 18 = .ok (.getfield 9, 3) := by decide +kernel
theorem dX3_takeDigits_21 : decode cX3_takeDigits 21 = .ok (.aload_n 0, 1) := by decide +kernel
theorem dX3_takeDigits_22 : decode cX3_takeDigits 22 = .ok (.getfield 25, 3) := by decide +kernel
theorem dX3_takeDigits_25 : decode cX3_takeDigits 25 = .ok (.iaload, 1) := by decide +kernel
theorem dX3_takeDigits_26 : decode cX3_takeDigits 26 = .ok (.bipush 48, 2) := by decide +kernel
theorem dX3_takeDigits_28 : decode cX3_takeDigits 28 = .ok (.isub, 1) := by decide +kernel
theorem dX3_takeDigits_29 : decode cX3_takeDigits 29 = .ok (.istore_n 1, 1) := by decide +kernel
theorem dX3_takeDigits_30 : decode cX3_takeDigits 30 = .ok (.aload_n 0, 1) := by decide +kernel
theorem dX3_takeDigits_31 : decode cX3_takeDigits 31 = .ok (.dup, 1) := by decide +kernel
theorem dX3_takeDigits_32 : decode cX3_takeDigits 32 = .ok (.getfield 25, 3) := by decide +kernel
theorem dX3_takeDigits_35 : decode cX3_takeDigits 35 = .ok (.iconst 1, 1) := by decide +kernel
theorem dX3_takeDigits_36 : decode cX3_takeDigits 36 = .ok (.iadd, 1) := by decide +kernel
theorem dX3_takeDigits_37 : decode cX3_takeDigits 37 = .ok (.putfield 25, 3) := by decide +kernel
theorem dX3_takeDigits_40 : decode cX3_takeDigits 40 = .ok (.aload_n 0, 1) := by decide +kernel
theorem dX3_takeDigits_41 : decode cX3_takeDigits 41 = .ok (.invokevirtual 120, 3) := by decide +kernel
theorem dX3_takeDigits_44 : decode cX3_takeDigits 44 = .ok (.ifCond .eq 31, 3) := by decide +kernel
theorem dX3_takeDigits_47 : decode cX3_takeDigits 47 = .ok (.bipush 10, 2) := by decide +kernel
theorem dX3_takeDigits_49 : decode cX3_takeDigits 49 = .ok (.iload_n 1, 1) := by decide +kernel
theorem dX3_takeDigits_50 : decode cX3_takeDigits 50 = .ok (.imul, 1) := by decide +kernel
theorem dX3_takeDigits_51 : decode cX3_takeDigits 51 = .ok (.aload_n 0, 1) := by decide +kernel
theorem dX3_takeDigits_52 : decode cX3_takeDigits 52 = .ok (.getfield 9, 3) := by decide +kernel
theorem dX3_takeDigits_55 : decode cX3_takeDigits 55 = .ok (.aload_n 0, 1) := by decide +kernel
theorem dX3_takeDigits_56 : decode cX3_takeDigits 56 = .ok (.getfield 25, 3) := by decide +kernel
theorem dX3_takeDigits_59 : decode cX3_takeDigits 59 = .ok (.iaload, 1) := by decide +kernel
theorem dX3_takeDigits_60 : decode cX3_takeDigits 60 = .ok (.iadd, 1) := by decide +kernel
theorem dX3_takeDigits_61 : decode cX3_takeDigits 61 = .ok (.bipush 48, 2) := by decide +kernel
theorem dX3_takeDigits_63 : decode cX3_takeDigits 63 = .ok (.isub, 1) := by decide +kernel
theorem dX3_takeDigits_64 : decode cX3_takeDigits 64 = .ok (.istore_n 1, 1) := by decide +kernel
theorem dX3_takeDigits_65 : decode cX3_takeDigits 65 = .ok (.aload_n 0, 1) := by decide +kernel
theorem dX3_takeDigits_66 : decode cX3_takeDigits 66 = .ok (.dup, 1) := by decide +kernel
theorem dX3_takeDigits_67 : decode cX3_takeDigits 67 = .ok (.getfield 25, 3) := by decide +kernel
theorem dX3_takeDigits_70 : decode cX3_takeDigits 70 = .ok (.iconst 1, 1) := by decide +kernel
theorem dX3_takeDigits_71 : decode cX3_takeDigits 71 = .ok (.iadd, 1) := by decide +kernel
theorem dX3_takeDigits_72 : decode cX3_takeDigits 72 = .ok (.putfield 25, 3) := by decide +kernel
theorem dX3_takeDigits_75 : decode cX3_takeDigits 75 = .ok (.iload_n 1, 1) := by decide +kernel
theorem dX3_takeDigits_76 : decode cX3_takeDigits 76 = .ok (.ireturn, 1) := by decide +kernel
theorem dX3_takeSemicolon_0 : decode cX3_takeSemicolon 0 = .ok (.aload_n 0, 1) := by decide +kernel
theorem dX3_takeSemicolon_1 : decode cX3_takeSemicolon 1 = .ok (.invokevirtual 37, 3) := by decide +kernel
theorem dX3_takeSemicolon_4 : decode cX3_takeSemicolon 4 = .ok (.aload_n 0, 1) := by decide +kernel
theorem dX3_takeSemicolon_5 : decode cX3_takeSemicolon 5 = .ok (.bipush 59, 2) := by decide +kernel
theorem dX3_takeSemicolon_7 : decode cX3_takeSemicolon 7 = .ok (.invokevirtual 123, 3) := by decide +kernel
theorem dX3_takeSemicolon_10 : decode cX3_takeSemicolon 10 = .ok (.ifCond .eq 16, 3) := by decide +kernel
theorem dX3_takeSemicolon_13 : decode cX3_takeSemicolon 13 = .ok (.aload_n 0, 1) := by decide +kernel
theorem dX3_takeSemicolon_14 : decode cX3_takeSemicolon 14 = .ok (.dup, 1) := by decide +kernel
theorem dX3_takeSemicolon_15 : decode cX3_takeSemicolon 15 = .ok (.getfield 25, 3) := by decide +kernel
theorem dX3_takeSemicolon_18 : decode cX3_takeSemicolon 18 = .ok (.iconst 1, 1) := by decide +kernel
theorem dX3_takeSemicolon_19 : decode cX3_takeSemicolon 19 = .ok (.iadd, 1) := by decide +kernel
theorem dX3_takeSemicolon_20 : decode cX3_takeSemicolon 20 = .ok (.putfield 25, 3) := by decide +kernel
theorem dX3_takeSemicolon_23 : decode cX3_takeSemicolon 23 = .ok (.goto 11, 3) := by decide +kernel
theorem dX3_takeSemicolon_26 : decode cX3_takeSemicolon 26 = .ok (.aload_n 0, 1) := by decide +kernel
theorem dX3_takeSemicolon_27 : decode cX3_takeSemicolon 27 = .ok (.aload_n 0, 1) := by decide +kernel
theorem dX3_takeSemicolon_28 : decode cX3_takeSemicolon 28 = .ok (.getfield 25, 3) := by decide +kernel
theorem dX3_takeSemicolon_31 : decode cX3_takeSemicolon 31 = .ok (.invokevirtual 92, 3) := by decide +kernel
theorem dX3_takeSemicolon_34 : decode cX3_takeSemicolon 34 = .ok (.return_, 1) := by decide +kernel
theorem dJ0_length_8abf5_0 : decode cJ0_length_8abf5 0 = .ok (.aload_n 0, 1) := by decide +kernel
theorem dJ0_length_8abf5_1 : decode cJ0_length_8abf5 1 = .ok (.getfield 9, 3) := by decide +kernel
theorem dJ0_length_8abf5_4 : decode cJ0_length_8abf5 4 = .ok (.arraylength, 1) := by decide +kernel
theorem dJ0_length_8abf5_5 : decode cJ0_length_8abf5 5 = .ok (.aload_n 0, 1) := by decide +kernel
theorem dJ0_length_8abf5_6 : decode cJ0_length_8abf5 6 = .ok (.invokevirtual 335, 3) := by decide +kernel
theorem dJ0_length_8abf5_9 : decode cJ0_length_8abf5 9 = .ok (.ishr, 1) := by decide +kernel
theorem dJ0_length_8abf5_10 : decode cJ0_length_8abf5 10 = .ok (.ireturn, 1) := by decide +kernel
theorem dJ0_charAt_5068e_0 : decode cJ0_charAt_5068e 0 = .ok (.aload_n 0, 1) := by decide +kernel
theorem dJ0_charAt_5068e_1 : decode cJ0_charAt_5068e 1 = .ok (.invokevirtual 492, 3) := by decide +kernel
theorem dJ0_charAt_5068e_4 : decode cJ0_charAt_5068e 4 = .ok (.ifCond .eq 12, 3) := by decide +kernel
theorem dJ0_charAt_5068e_7 : decode cJ0_charAt_5068e 7 = .ok (.aload_n 0, 1) := by decide +kernel
theorem dJ0_charAt_5068e_8 : decode cJ0_charAt_5068e 8 = .ok (.getfield 9, 3) := by decide +kernel
theorem dJ0_charAt_5068e_11 : decode cJ0_charAt_5068e 11 = .ok (.iload_n 1, 1) := by decide +kernel
theorem dJ0_charAt_5068e_12 : decode cJ0_charAt_5068e 12 = .ok (.invokestatic 495, 3) := by decide +kernel
theorem dJ0_charAt_5068e_15 : decode cJ0_charAt_5068e 15 = .ok (.ireturn, 1) := by decide +kernel
theorem dJ0_charAt_5068e_16 : decode cJ0_charAt_5068e 16 = .ok (.aload_n 0, 1) := by decide +kernel
theorem dJ0_charAt_5068e_17 : decode cJ0_charAt_5068e 17 = .ok (.getfield 9, 3) := by decide +kernel
theorem dJ0_charAt_5068e_20 : decode cJ0_charAt_5068e 20 = .ok (.iload_n 1, 1) := by decide +kernel
theorem dJ0_charAt_5068e_21 : decode cJ0_charAt_5068e 21 = .ok (.invokestatic 498, 3) := by decide +kernel
theorem dJ0_charAt_5068e_24 : decode cJ0_charAt_5068e 24 = .ok (.ireturn, 1) := by decide +kernel
theorem dJ0_coder_7d493_0 : decode cJ0_coder_7d493 0 = .ok (.getstatic 38, 3) := by decide +kernel
theorem dJ0_coder_7d493_3 : decode cJ0_coder_7d493 3 = .ok (.ifCond .eq 10, 3) := by decide +kernel
theorem dJ0_coder_7d493_6 : decode cJ0_coder_7d493 6 = .ok (.aload_n 0, 1) := by decide +kernel
theorem dJ0_coder_7d493_7 : decode cJ0_coder_7d493 7 = .ok (.getfield 15, 3) := by decide +kernel
theorem dJ0_coder_7d493_10 : decode cJ0_coder_7d493 10 = .ok (.goto 4, 3) := by decide +kernel
theorem dJ0_coder_7d493_13 : decode cJ0_coder_7d493 13 = .ok (.iconst 1, 1) := by decide +kernel
theorem dJ0_coder_7d493_14 : decode cJ0_coder_7d493 14 = .ok (.ireturn, 1) := by decide +kernel
theorem dJ0_isLatin1_aae02_0 : decode cJ0_isLatin1_aae02 0 = .ok (.getstatic 38, 3) := by decide +kernel
theorem dJ0_isLatin1_aae02_3 : decode cJ0_isLatin1_aae02 3 = .ok (.ifCond .eq 14, 3) := by decide +kernel
theorem dJ0_isLatin1_aae02_6 : decode cJ0_isLatin1_aae02 6 = .ok (.aload_n 0, 1) := by decide +kernel
theorem dJ0_isLatin1_aae02_7 : decode cJ0_isLatin1_aae02 7 = .ok (.getfield 15, 3) := by decide +kernel
theorem dJ0_isLatin1_aae02_10 : decode cJ0_isLatin1_aae02 10 = .ok (.ifCond .ne 7, 3) := by decide +kernel
theorem dJ0_isLatin1_aae02_13 : decode cJ0_isLatin1_aae02 13 = .ok (.iconst 1, 1) := by decide +kernel
theorem dJ0_isLatin1_aae02_14 : decode cJ0_isLatin1_aae02 14 = .ok (.goto 4, 3) := by decide +kernel
theorem dJ0_isLatin1_aae02_17 : decode cJ0_isLatin1_aae02 17 = .ok (.iconst 0, 1) := by decide +kernel
theorem dJ0_isLatin1_aae02_18 : decode cJ0_isLatin1_aae02 18 = .ok (.ireturn, 1) := by decide +kernel
theorem dJ0_checkIndex_df160_0 : decode cJ0_checkIndex_df160 0 = .ok (.iload_n 0, 1) := by decide +kernel
theorem dJ0_checkIndex_df160_1 : decode cJ0_checkIndex_df160 1 = .ok (.iload_n 1, 1) := by decide +kernel
theorem dJ0_checkIndex_df160_2 : decode cJ0_checkIndex_df160 2 = .ok (.getstatic 1053, 3) := by decide +kernel
theorem dJ0_checkIndex_df160_5 : decode cJ0_checkIndex_df160 5 = .ok (.invokestatic 1059, 3) := by decide +kernel
theorem dJ0_checkIndex_df160_8 : decode cJ0_checkIndex_df160 8 = .ok (.pop, 1) := by decide +kernel
theorem dJ0_checkIndex_df160_9 : decode cJ0_checkIndex_df160 9 = .ok (.return_, 1) := by decide +kernel
theorem dJ1_charAt_3b067_0 : decode cJ1_charAt_3b067 0 = .ok (.iload_n 1, 1) := by decide +kernel
theorem dJ1_charAt_3b067_1 : decode cJ1_charAt_3b067 1 = .ok (.aload_n 0, 1) := by decide +kernel
theorem dJ1_charAt_3b067_2 : decode cJ1_charAt_3b067 2 = .ok (.arraylength, 1) := by decide +kernel
theorem dJ1_charAt_3b067_3 : decode cJ1_charAt_3b067 3 = .ok (.invokestatic 9, 3) := by decide +kernel
theorem dJ1_charAt_3b067_6 : decode cJ1_charAt_3b067 6 = .ok (.aload_n 0, 1) := by decide +kernel
theorem dJ1_charAt_3b067_7 : decode cJ1_charAt_3b067 7 = .ok (.iload_n 1, 1) := by decide +kernel
theorem dJ1_charAt_3b067_8 : decode cJ1_charAt_3b067 8 = .ok (.baload, 1) := by decide +kernel
theorem dJ1_charAt_3b067_9 : decode cJ1_charAt_3b067 9 = .ok (.sipush 255, 3) := by decide +kernel
theorem dJ1_charAt_3b067_12 : decode cJ1_charAt_3b067 12 = .ok (.iand, 1) := by decide +kernel
theorem dJ1_charAt_3b067_13 : decode cJ1_charAt_3b067 13 = .ok (.i2c, 1) := by decide +kernel
theorem dJ1_charAt_3b067_14 : decode cJ1_charAt_3b067 14 = .ok (.ireturn, 1) := by decide +kernel
theorem dJ2_getChar_3b067_0 : decode cJ2_getChar_3b067 0 = .ok (.getstatic 44, 3) := by decide +kernel
theorem dJ2_getChar_3b067_3 : decode cJ2_getChar_3b067 3 = .ok (.ifCond .ne 25, 3) := by decide +kernel
theorem dJ2_getChar_3b067_6 : decode cJ2_getChar_3b067 6 = .ok (.iload_n 1, 1) := by decide +kernel
theorem dJ2_getChar_3b067_7 : decode cJ2_getChar_3b067 7 = .ok (.ifCond .lt 11, 3) := by decide +kernel
theorem dJ2_getChar_3b067_10 : decode cJ2_getChar_3b067 10 = .ok (.iload_n 1, 1) := by decide +kernel
theorem dJ2_getChar_3b067_11 : decode cJ2_getChar_3b067 11 = .ok (.aload_n 0, 1) := by decide +kernel
theorem dJ2_getChar_3b067_12 : decode cJ2_getChar_3b067 12 = .ok (.invokestatic 48, 3) := by decide +kernel
theorem dJ2_getChar_3b067_15 : decode cJ2_getChar_3b067 15 = .ok (.if_icmp .lt 13, 3) := by decide +kernel
theorem dJ2_getChar_3b067_18 : decode cJ2_getChar_3b067 18 = .ok (.new 52, 3) := by decide +kernel
theorem dJ2_getChar_3b067_21 : decode cJ2_getChar_3b067 21 = .ok (.dup, 1) := by decide +kernel
theorem dJ2_getChar_3b067_22 : decode cJ2_getChar_3b067 22 = .ok (.ldc 54, 2) := by decide +kernel
theorem dJ2_getChar_3b067_24 : decode cJ2_getChar_3b067 24 = .ok (.invokespecial 56, 3) := by decide +kernel
theorem dJ2_getChar_3b067_27 : decode cJ2_getChar_3b067 27 = .ok (.athrow, 1) := by decide +kernel
theorem dJ2_getChar_3b067_28 : decode cJ2_getChar_3b067 28 = .ok (.iload_n 1, 1) := by decide +kernel
theorem dJ2_getChar_3b067_29 : decode cJ2_getChar_3b067 29 = .ok (.iconst 1, 1) := by decide +kernel
theorem dJ2_getChar_3b067_30 : decode cJ2_getChar_3b067 30 = .ok (.ishl, 1) := by decide +kernel
theorem dJ2_getChar_3b067_31 : decode cJ2_getChar_3b067 31 = .ok (.istore_n 1, 1) := by decide +kernel
theorem dJ2_getChar_3b067_32 : decode cJ2_getChar_3b067 32 = .ok (.aload_n 0, 1) := by decide +kernel
theorem dJ2_getChar_3b067_33 : decode cJ2_getChar_3b067 33 = .ok (.iload_n 1, 1) := by decide +kernel
theorem dJ2_getChar_3b067_34 : decode cJ2_getChar_3b067 34 = .ok (.iinc 1 1, 3) := by decide +kernel
theorem dJ2_getChar_3b067_37 : decode cJ2_getChar_3b067 37 = .ok (.baload, 1) := by decide +kernel
theorem dJ2_getChar_3b067_38 : decode cJ2_getChar_3b067 38 = .ok (.sipush 255, 3) := by decide +kernel
theorem dJ2_getChar_3b067_41 : decode cJ2_getChar_3b067 41 = .ok (.iand, 1) := by decide +kernel
theorem dJ2_getChar_3b067_42 : decode cJ2_getChar_3b067 42 = .ok (.getstatic 59, 3) := by decide +kernel
theorem dJ2_getChar_3b067_45 : decode cJ2_getChar_3b067 45 = .ok (.ishl, 1) := by decide +kernel
theorem dJ2_getChar_3b067_46 : decode cJ2_getChar_3b067 46 = .ok (.aload_n 0, 1) := by decide +kernel
theorem dJ2_getChar_3b067_47 : decode cJ2_getChar_3b067 47 = .ok (.iload_n 1, 1) := by decide +kernel
theorem dJ2_getChar_3b067_48 : decode cJ2_getChar_3b067 48 = .ok (.baload, 1) := by decide +kernel
theorem dJ2_getChar_3b067_49 : decode cJ2_getChar_3b067 49 = .ok (.sipush 255, 3) := by decide +kernel
theorem dJ2_getChar_3b067_52 : decode cJ2_getChar_3b067 52 = .ok (.iand, 1) := by decide +kernel
theorem dJ2_getChar_3b067_53 : decode cJ2_getChar_3b067 53 = .ok (.getstatic 63, 3) := by decide +kernel
theorem dJ2_getChar_3b067_56 : decode cJ2_getChar_3b067 56 = .ok (.ishl, 1) := by decide +kernel
theorem dJ2_getChar_3b067_57 : decode cJ2_getChar_3b067 57 = .ok (.ior, 1) := by decide +kernel
theorem dJ2_getChar_3b067_58 : decode cJ2_getChar_3b067 58 = .ok (.i2c, 1) := by decide +kernel
theorem dJ2_getChar_3b067_59 : decode cJ2_getChar_3b067 59 = .ok (.ireturn, 1) := by decide +kernel
theorem dJ2_length_9d52b_0 : decode cJ2_length_9d52b 0 = .ok (.aload_n 0, 1) := by decide +kernel
theorem dJ2_length_9d52b_1 : decode cJ2_length_9d52b 1 = .ok (.arraylength, 1) := by decide +kernel
theorem dJ2_length_9d52b_2 : decode cJ2_length_9d52b 2 = .ok (.iconst 1, 1) := by decide +kernel
theorem dJ2_length_9d52b_3 : decode cJ2_length_9d52b 3 = .ok (.ishr, 1) := by decide +kernel
theorem dJ2_length_9d52b_4 : decode cJ2_length_9d52b 4 = .ok (.ireturn, 1) := by decide +kernel
theorem dJ2_charAt_3b067_0 : decode cJ2_charAt_3b067 0 = .ok (.iload_n 1, 1) := by decide +kernel
theorem dJ2_charAt_3b067_1 : decode cJ2_charAt_3b067 1 = .ok (.aload_n 0, 1) := by decide +kernel
theorem dJ2_charAt_3b067_2 : decode cJ2_charAt_3b067 2 = .ok (.invokestatic 67, 3) := by decide +kernel
theorem dJ2_charAt_3b067_5 : decode cJ2_charAt_3b067 5 = .ok (.aload_n 0, 1) := by decide +kernel
theorem dJ2_charAt_3b067_6 : decode cJ2_charAt_3b067 6 = .ok (.iload_n 1, 1) := by decide +kernel
theorem dJ2_charAt_3b067_7 : decode cJ2_charAt_3b067 7 = .ok (.invokestatic 71, 3) := by decide +kernel
theorem dJ2_charAt_3b067_10 : decode cJ2_charAt_3b067 10 = .ok (.ireturn, 1) := by decide +kernel
theorem dJ2_checkIndex_2214a_0 : decode cJ2_checkIndex_2214a 0 = .ok (.iload_n 0, 1) := by decide +kernel
theorem dJ2_checkIndex_2214a_1 : decode cJ2_checkIndex_2214a 1 = .ok (.aload_n 1, 1) := by decide +kernel
theorem dJ2_checkIndex_2214a_2 : decode cJ2_checkIndex_2214a 2 = .ok (.invokestatic 48, 3) := by decide +kernel
theorem dJ2_checkIndex_2214a_5 : decode cJ2_checkIndex_2214a 5 = .ok (.invokestatic 414, 3) := by decide +kernel
theorem dJ2_checkIndex_2214a_8 : decode cJ2_checkIndex_2214a 8 = .ok (.return_, 1) := by decide +kernel
theorem dJ3_checkIndex_8e157_0 : decode cJ3_checkIndex_8e157 0 = .ok (.iload_n 0, 1) := by decide +kernel
theorem dJ3_checkIndex_8e157_1 : decode cJ3_checkIndex_8e157 1 = .ok (.ifCond .lt 8, 3) := by decide +kernel
theorem dJ3_checkIndex_8e157_4 : decode cJ3_checkIndex_8e157 4 = .ok (.iload_n 0, 1) := by decide +kernel
theorem dJ3_checkIndex_8e157_5 : decode cJ3_checkIndex_8e157 5 = .ok (.iload_n 1, 1) := by decide +kernel
theorem dJ3_checkIndex_8e157_6 : decode cJ3_checkIndex_8e157 6 = .ok (.if_icmp .lt 10, 3) := by decide +kernel
theorem dJ3_checkIndex_8e157_9 : decode cJ3_checkIndex_8e157 9 = .ok (.aload_n 2, 1) := by decide +kernel
theorem dJ3_checkIndex_8e157_10 : decode cJ3_checkIndex_8e157 10 = .ok (.iload_n 0, 1) := by decide +kernel
theorem dJ3_checkIndex_8e157_11 : decode cJ3_checkIndex_8e157 11 = .ok (.iload_n 1, 1) := by decide +kernel
theorem dJ3_checkIndex_8e157_12 : decode cJ3_checkIndex_8e157 12 = .ok (.invokestatic 95, 3) := by decide +kernel
theorem dJ3_checkIndex_8e157_15 : decode cJ3_checkIndex_8e157 15 = .ok (.athrow, 1) := by decide +kernel
theorem dJ3_checkIndex_8e157_16 : decode cJ3_checkIndex_8e157 16 = .ok (.iload_n 0, 1) := by decide +kernel
theorem dJ3_checkIndex_8e157_17 : decode cJ3_checkIndex_8e157 17 = .ok (.ireturn, 1) := by decide +kernel
theorem dJ9_max_7cf53_0 : decode cJ9_max_7cf53 0 = .ok (.iload_n 0, 1) := by decide +kernel
theorem dJ9_max_7cf53_1 : decode cJ9_max_7cf53 1 = .ok (.iload_n 1, 1) := by decide +kernel
theorem dJ9_max_7cf53_2 : decode cJ9_max_7cf53 2 = .ok (.if_icmp .lt 7, 3) := by decide +kernel
theorem dJ9_max_7cf53_5 : decode cJ9_max_7cf53 5 = .ok (.iload_n 0, 1) := by decide +kernel
theorem dJ9_max_7cf53_6 : decode cJ9_max_7cf53 6 = .ok (.goto 4, 3) := by decide +kernel
theorem dJ9_max_7cf53_9 : decode cJ9_max_7cf53 9 = .ok (.iload_n 1, 1) := by decide +kernel
theorem dJ9_max_7cf53_10 : decode cJ9_max_7cf53 10 = .ok (.ireturn, 1) := by decide +kernel
theorem dJ9_min_7cf53_0 : decode cJ9_min_7cf53 0 = .ok (.iload_n 0, 1) := by decide +kernel
theorem dJ9_min_7cf53_1 : decode cJ9_min_7cf53 1 = .ok (.iload_n 1, 1) := by decide +kernel
theorem dJ9_min_7cf53_2 : decode cJ9_min_7cf53 2 = .ok (.if_icmp .gt 7, 3) := by decide +kernel
theorem dJ9_min_7cf53_5 : decode cJ9_min_7cf53 5 = .ok (.iload_n 0, 1) := by decide +kernel
theorem dJ9_min_7cf53_6 : decode cJ9_min_7cf53 6 = .ok (.goto 4, 3) := by decide +kernel
theorem dJ9_min_7cf53_9 : decode cJ9_min_7cf53 9 = .ok (.iload_n 1, 1) := by decide +kernel
theorem dJ9_min_7cf53_10 : decode cJ9_min_7cf53 10 = .ok (.ireturn, 1) := by decide +kernel
end
section
theorem dX4_init_0 : decode cX4_init 0 = .ok (.aload_n 0, 1) := by decide +kernel
theorem dX4_init_1 : decode cX4_init 1 = .ok (.invokespecial 1, 3) := by decide +kernel
theorem dX4_init_4 : decode cX4_init 4 = .ok (.aload_n 0, 1) := by decide +kernel
theorem dX4_init_5 : decode cX4_init 5 = .ok (.new 7, 3) := by decide +kernel
theorem dX4_init_8 : decode cX4_init 8 = .ok (.dup, 1) := by decide +kernel
theorem dX4_init_9 : decode cX4_init 9 = .ok (.invokespecial 9, 3) := by decide +kernel
theorem dX4_init_12 : decode cX4_init 12 = .ok (.putfield 10, 3) := by decide +kernel
theorem dX4_init_15 : decode cX4_init 15 = .ok (.aload_n 0, 1) := by decide +kernel
theorem dX4_init_16 : decode cX4_init 16 = .ok (.bipush 6, 2) := by decide +kernel
theorem dX4_init_18 : decode cX4_init 18 = .ok (.anewarray 7, 3) := by decide +kernel
theorem dX4_init_21 : decode cX4_init 21 = .ok (.putfield 16, 3) := by decide +kernel
theorem dX4_init_24 : decode cX4_init 24 = .ok (.aload_n 0, 1) := by decide +kernel
theorem dX4_init_25 : decode cX4_init 25 = .ok (.iconst 0, 1) := by decide +kernel
theorem dX4_init_26 : decode cX4_init 26 = .ok (.putfield 20, 3) := by decide +kernel
theorem dX4_init_29 : decode cX4_init 29 = .ok (.aload_n 0, 1) := by decide +kernel
theorem dX4_init_30 : decode cX4_init 30 = .ok (.new 24, 3) := by decide +kernel
theorem dX4_init_33 : decode cX4_init 33 = .ok (.dup, 1) := by decide +kernel
theorem dX4_init_34 : decode cX4_init 34 = .ok (.invokespecial 26, 3) := by decide +kernel
theorem dX4_init_37 : decode cX4_init 37 = .ok (.putfield 27, 3) := by decide +kernel
theorem dX4_init_40 : decode cX4_init 40 = .ok (.aload_n 0, 1) := by decide +kernel
theorem dX4_init_41 : decode cX4_init 41 = .ok (.new 31, 3) := by decide +kernel
theorem dX4_init_44 : decode cX4_init 44 = .ok (.dup, 1) := by decide +kernel
theorem dX4_init_45 : decode cX4_init 45 = .ok (.invokespecial 33, 3) := by decide +kernel
theorem dX4_init_48 : decode cX4_init 48 = .ok (.putfield 34, 3) := by decide +kernel
theorem dX4_init_51 : decode cX4_init 51 = .ok (.aload_n 0, 1) := by decide +kernel
theorem dX4_init_52 : decode cX4_init 52 = .ok (.bipush 12, 2) := by decide +kernel
theorem dX4_init_54 : decode cX4_init 54 = .ok (.newarray .int, 2) := by decide +kernel
theorem dX4_init_56 : decode cX4_init 56 = .ok (.putfield 38, 3) := by decide +kernel
theorem dX4_init_59 : decode cX4_init 59 = .ok (.aload_n 0, 1) := by decide +kernel
theorem dX4_init_60 : decode cX4_init 60 = .ok (.bipush 12, 2) := by decide +kernel
theorem dX4_init_62 : decode cX4_init 62 = .ok (.newarray .int, 2) := by decide +kernel
theorem dX4_init_64 : decode cX4_init 64 = .ok (.putfield 42, 3) := by decide +kernel
theorem dX4_init_67 : decode cX4_init 67 = .ok (.iconst 0, 1) := by decide +kernel
theorem dX4_init_68 : decode cX4_init 68 = .ok (.istore_n 1, 1) := by decide +kernel
theorem dX4_init_69 : decode cX4_init 69 = .ok (.iload_n 1, 1) := by decide +kernel
theorem dX4_init_70 : decode cX4_init 70 = .ok (.bipush 6, 2) := by decide +kernel
theorem dX4_init_72 : decode cX4_init 72 = .ok (.if_icmp .ge 22, 3) := by decide +kernel
theorem dX4_init_75 : decode cX4_init 75 = .ok (.aload_n 0, 1) := by decide +kernel
theorem dX4_init_76 : decode cX4_init 76 = .ok (.getfield 16, 3) := by decide +kernel
theorem dX4_init_79 : decode cX4_init 79 = .ok (.iload_n 1, 1) := by decide +kernel
theorem dX4_init_80 : decode cX4_init 80 = .ok (.new 7, 3) := by decide +kernel
theorem dX4_init_83 : decode cX4_init 83 = .ok (.dup, 1) := by decide +kernel
theorem dX4_init_84 : decode cX4_init 84 = .ok (.invokespecial 9, 3) := by decide +kernel
theorem dX4_init_87 : decode cX4_init 87 = .ok (.aastore, 1) := by decide +kernel
theorem dX4_init_88 : decode cX4_init 88 = .ok (.iinc 1 1, 3) := by decide +kernel
theorem dX4_init_91 : decode cX4_init 91 = .ok (.goto (-22), 3) := by decide +kernel
theorem dX4_init_94 : decode cX4_init 94 = .ok (.return_, 1) := by decide +kernel
theorem dX4_type_0 : decode cX4_type 0 = .ok (.iload_n 1, 1) := by decide +kernel
theorem dX4_type_1 : decode cX4_type 1 = .ok (.ifCond .lt 9, 3) := by decide +kernel
theorem dX4_type_4 : decode cX4_type 4 = .ok (.iload_n 1, 1) := by decide +kernel
theorem dX4_type_5 : decode cX4_type 5 = .ok (.bipush 127, 2) := by decide +kernel
theorem dX4_type_7 : decode cX4_type 7 = .ok (.if_icmp .le 6, 3) := by decide +kernel
theorem dX4_type_10 : decode cX4_type 10 = .ok (.bipush (-2), 2) := by decide +kernel
theorem dX4_type_12 : decode cX4_type 12 = .ok (.ireturn, 1) := by decide +kernel
theorem dX4_type_13 : decode cX4_type 13 = .ok (.aload_n 0, 1) := by decide +kernel
theorem dX4_type_14 : decode cX4_type 14 = .ok (.getfield 27, 3) := by decide +kernel
theorem dX4_type_17 : decode cX4_type 17 = .ok (.getfield 45, 3) := by decide +kernel
theorem dX4_type_20 : decode cX4_type 20 = .ok (.bipush 80, 2) := by decide +kernel
theorem dX4_type_22 : decode cX4_type 22 = .ok (.if_icmp .lt 6, 3) := by decide +kernel
theorem dX4_type_25 : decode cX4_type 25 = .ok (.bipush (-4), 2) := by decide +kernel
theorem dX4_type_27 : decode cX4_type 27 = .ok (.ireturn, 1) := by decide +kernel
theorem dX4_type_28 : decode cX4_type 28 = .ok (.aload_n 0, 1) := by decide +kernel
theorem dX4_type_29 : decode cX4_type 29 = .ok (.getfield 27, 3) := by decide +kernel
theorem dX4_type_32 : decode cX4_type 32 = .ok (.getfield 48, 3) := by decide +kernel
theorem dX4_type_35 : decode cX4_type 35 = .ok (.aload_n 0, 1) := by decide +kernel
theorem dX4_type_36 : decode cX4_type 36 = .ok (.getfield 27, 3) := by decide +kernel
theorem dX4_type_39 : decode cX4_type 39 = .ok (.getfield 45, 3) := by decide +kernel
theorem dX4_type_42 : decode cX4_type 42 = .ok (.iload_n 1, 1) := by decide +kernel
theorem dX4_type_43 : decode cX4_type 43 = .ok (.iastore, 1) := by decide +kernel
theorem dX4_type_44 : decode cX4_type 44 = .ok (.aload_n 0, 1) := by decide +kernel
theorem dX4_type_45 : decode cX4_type 45 = .ok (.getfield 27, 3) := by decide +kernel
theorem dX4_type_48 : decode cX4_type 48 = .ok (.dup, 1) := by decide +kernel
theorem dX4_type_49 : decode cX4_type 49 = .ok (.getfield 45, 3) := by decide +kernel
theorem dX4_type_52 : decode cX4_type 52 = .ok (.iconst 1, 1) := by decide +kernel
theorem dX4_type_53 : decode cX4_type 53 = .ok (.iadd, 1) := by decide +kernel
theorem dX4_type_54 : decode cX4_type 54 = .ok (.putfield 45, 3) := by decide +kernel
theorem dX4_type_57 : decode cX4_type 57 = .ok (.aload_n 0, 1) := by decide +kernel
theorem dX4_type_58 : decode cX4_type 58 = .ok (.getfield 27, 3) := by decide +kernel
theorem dX4_type_61 : decode cX4_type 61 = .ok (.getfield 45, 3) := by decide +kernel
theorem dX4_type_64 : decode cX4_type 64 = .ok (.ireturn, 1) := by decide +kernel
theorem dX4_clear_0 : decode cX4_clear 0 = .ok (.aload_n 0, 1) := by decide +kernel
theorem dX4_clear_1 : decode cX4_clear 1 = .ok (.getfield 27, 3) := by decide +kernel
theorem dX4_clear_4 : decode cX4_clear 4 = .ok (.getfield 45, 3) := by decide +kernel
theorem dX4_clear_7 : decode cX4_clear 7 = .ok (.istore_n 1, 1) := by decide +kernel
theorem dX4_clear_8 : decode cX4_clear 8 = .ok (.aload_n 0, 1) := by decide +kernel
theorem dX4_clear_9 : decode cX4_clear 9 = .ok (.getfield 27, 3) := by decide +kernel
theorem dX4_clear_12 : decode cX4_clear 12 = .ok (.iconst 0, 1) := by decide +kernel
theorem dX4_clear_13 : decode cX4_clear 13 = .ok (.putfield 45, 3) := by decide +kernel
theorem dX4_clear_16 : decode cX4_clear 16 = .ok (.iload_n 1, 1) := by decide +kernel
theorem dX4_clear_17 : decode cX4_clear 17 = .ok (.ireturn, 1) := by decide +kernel
theorem dX4_play_0 : decode cX4_play 0 = .ok (.aload_n 0, 1) := by decide +kernel
theorem dX4_play_1 : decode cX4_play 1 = .ok (.getfield 27, 3) := by decide +kernel
theorem dX4_play_4 : decode cX4_play 4 = .ok (.aload_n 0, 1) := by decide +kernel
theorem dX4_play_5 : decode cX4_play 5 = .ok (.getfield 10, 3) := by decide +kernel
theorem dX4_play_8 : decode cX4_play 8 = .ok (.getfield 51, 3) := by decide +kernel
theorem dX4_play_11 : decode cX4_play 11 = .ok (.aload_n 0, 1) := by decide +kernel
theorem dX4_play_12 : decode cX4_play 12 = .ok (.getfield 10, 3) := by decide +kernel
theorem dX4_play_15 : decode cX4_play 15 = .ok (.getfield 54, 3) := by decide +kernel
theorem dX4_play_18 : decode cX4_play 18 = .ok (.invokestatic 57, 3) := by decide +kernel
theorem dX4_play_21 : decode cX4_play 21 = .ok (.invokevirtual 61, 3) := by decide +kernel
theorem dX4_play_24 : decode cX4_play 24 = .ok (.istore_n 1, 1) := by decide +kernel
theorem dX4_play_25 : decode cX4_play 25 = .ok (.iload_n 1, 1) := by decide +kernel
theorem dX4_play_26 : decode cX4_play 26 = .ok (.ifCond .lt 28, 3) := by decide +kernel
theorem dX4_play_29 : decode cX4_play 29 = .ok (.aload_n 0, 1) := by decide +kernel
theorem dX4_play_30 : decode cX4_play 30 = .ok (.invokevirtual 65, 3) := by decide +kernel
theorem dX4_play_33 : decode cX4_play 33 = .ok (.aload_n 0, 1) := by decide +kernel
theorem dX4_play_34 : decode cX4_play 34 = .ok (.getfield 27, 3) := by decide +kernel
theorem dX4_play_37 : decode cX4_play 37 = .ok (.getfield 68, 3) := by decide +kernel
theorem dX4_play_40 : decode cX4_play 40 = .ok (.iconst 0, 1) := by decide +kernel
theorem dX4_play_41 : decode cX4_play 41 = .ok (.aload_n 0, 1) := by decide +kernel
theorem dX4_play_42 : decode cX4_play 42 = .ok (.getfield 10, 3) := by decide +kernel
theorem dX4_play_45 : decode cX4_play 45 = .ok (.getfield 51, 3) := by decide +kernel
theorem dX4_play_48 : decode cX4_play 48 = .ok (.iconst 0, 1) := by decide +kernel
theorem dX4_play_49 : decode cX4_play 49 = .ok (.bipush 12, 2) := by decide +kernel
theorem dX4_play_51 : decode cX4_play 51 = .ok (.invokestatic 69, 3) := by decide +kernel
theorem dX4_play_54 : decode cX4_play 54 = .ok (.iload_n 1, 1) := by decide +kernel
theorem dX4_play_55 : decode cX4_play 55 = .ok (.ireturn, 1) := by decide +kernel
theorem dX4_raise_0 : decode cX4_raise 0 = .ok (.aload_n 0, 1) := by decide +kernel
theorem dX4_raise_1 : decode cX4_raise 1 = .ok (.getfield 10, 3) := by decide +kernel
theorem dX4_raise_4 : decode cX4_raise 4 = .ok (.getfield 54, 3) := by decide +kernel
theorem dX4_raise_7 : decode cX4_raise 7 = .ok (.iconst 3, 1) := by decide +kernel
theorem dX4_raise_8 : decode cX4_raise 8 = .ok (.if_icmp .lt 6, 3) := by decide +kernel
theorem dX4_raise_11 : decode cX4_raise 11 = .ok (.bipush (-3), 2) := by decide +kernel
theorem dX4_raise_13 : decode cX4_raise 13 = .ok (.ireturn, 1) := by decide +kernel
theorem dX4_raise_14 : decode cX4_raise 14 = .ok (.aload_n 0, 1) := by decide +kernel
theorem dX4_raise_15 : decode cX4_raise 15 = .ok (.invokevirtual 65, 3) := by decide +kernel
theorem dX4_raise_18 : decode cX4_raise 18 = .ok (.aload_n 0, 1) := by decide +kernel
theorem dX4_raise_19 : decode cX4_raise 19 = .ok (.getfield 10, 3) := by decide +kernel
theorem dX4_raise_22 : decode cX4_raise 22 = .ok (.getfield 51, 3) := by decide +kernel
theorem dX4_raise_25 : decode cX4_raise 25 = .ok (.aload_n 0, 1) := by decide +kernel
theorem dX4_raise_26 : decode cX4_raise 26 = .ok (.getfield 10, 3) := by decide +kernel
theorem dX4_raise_29 : decode cX4_raise 29 = .ok (.getfield 54, 3) := by decide +kernel
theorem dX4_raise_32 : decode cX4_raise 32 = .ok (.aload_n 0, 1) := by decide +kernel
theorem dX4_raise_33 : decode cX4_raise 33 = .ok (.getfield 10, 3) := by decide +kernel
theorem dX4_raise_36 : decode cX4_raise 36 = .ok (.getfield 54, 3) := by decide +kernel
theorem dX4_raise_39 : decode cX4_raise 39 = .ok (.iconst 1, 1) := by decide +kernel
theorem dX4_raise_40 : decode cX4_raise 40 = .ok (.iadd, 1) := by decide +kernel
theorem dX4_raise_41 : decode cX4_raise 41 = .ok (.invokestatic 75, 3) := by decide +kernel
theorem dX4_raise_44 : decode cX4_raise 44 = .ok (.aload_n 0, 1) := by decide +kernel
theorem dX4_raise_45 : decode cX4_raise 45 = .ok (.getfield 10, 3) := by decide +kernel
theorem dX4_raise_48 : decode cX4_raise 48 = .ok (.dup, 1) := by decide +kernel
theorem dX4_raise_49 : decode cX4_raise 49 = .ok (.getfield 54, 3) := by decide +kernel
theorem dX4_raise_52 : decode cX4_raise 52 = .ok (.iconst 1, 1) := by decide +kernel
theorem dX4_raise_53 : decode cX4_raise 53 = .ok (.iadd, 1) := by decide +kernel
theorem dX4_raise_54 : decode cX4_raise 54 = .ok (.putfield 54, 3) := by decide +kernel
theorem dX4_raise_57 : decode cX4_raise 57 = .ok (.aload_n 0, 1) := by decide +kernel
theorem dX4_raise_58 : decode cX4_raise 58 = .ok (.getfield 10, 3) := by decide +kernel
theorem dX4_raise_61 : decode cX4_raise 61 = .ok (.getfield 54, 3) := by decide +kernel
theorem dX4_raise_64 : decode cX4_raise 64 = .ok (.ireturn, 1) := by decide +kernel
theorem dX4_keep_0 : decode cX4_keep 0 = .ok (.aload_n 0, 1) := by decide +kernel
theorem dX4_keep_1 : decode cX4_keep 1 = .ok (.getfield 10, 3) := by decide +kernel
theorem dX4_keep_4 : decode cX4_keep 4 = .ok (.getfield 79, 3) := by decide +kernel
theorem dX4_keep_7 : decode cX4_keep 7 = .ok (.bipush 20, 2) := by decide +kernel
theorem dX4_keep_9 : decode cX4_keep 9 = .ok (.if_icmp .ge 15, 3) := by decide +kernel
theorem dX4_keep_12 : decode cX4_keep 12 = .ok (.aload_n 0, 1) := by decide +kernel
theorem dX4_keep_13 : decode cX4_keep 13 = .ok (.getfield 10, 3) := by decide +kernel
theorem dX4_keep_16 : decode cX4_keep 16 = .ok (.getfield 82, 3) := by decide +kernel
theorem dX4_keep_19 : decode cX4_keep 19 = .ok (.bipush 99, 2) := by decide +kernel
theorem dX4_keep_21 : decode cX4_keep 21 = .ok (.if_icmp .lt 6, 3) := by decide +kernel
theorem dX4_keep_24 : decode cX4_keep 24 = .ok (.bipush (-4), 2) := by decide +kernel
theorem dX4_keep_26 : decode cX4_keep 26 = .ok (.ireturn, 1) := by decide +kernel
theorem dX4_keep_27 : decode cX4_keep 27 = .ok (.aload_n 0, 1) := by decide +kernel
theorem dX4_keep_28 : decode cX4_keep 28 = .ok (.getfield 34, 3) := by decide +kernel
theorem dX4_keep_31 : decode cX4_keep 31 = .ok (.aload_n 0, 1) := by decide +kernel
theorem dX4_keep_32 : decode cX4_keep 32 = .ok (.getfield 10, 3) := by decide +kernel
theorem dX4_keep_35 : decode cX4_keep 35 = .ok (.invokevirtual 85, 3) := by decide +kernel
theorem dX4_keep_38 : decode cX4_keep 38 = .ok (.aload_n 0, 1) := by decide +kernel
theorem dX4_keep_39 : decode cX4_keep 39 = .ok (.invokevirtual 65, 3) := by decide +kernel
theorem dX4_keep_42 : decode cX4_keep 42 = .ok (.aload_n 0, 1) := by decide +kernel
theorem dX4_keep_43 : decode cX4_keep 43 = .ok (.getfield 10, 3) := by decide +kernel
theorem dX4_keep_46 : decode cX4_keep 46 = .ok (.getfield 89, 3) := by decide +kernel
theorem dX4_keep_49 : decode cX4_keep 49 = .ok (.aload_n 0, 1) := by decide +kernel
theorem dX4_keep_50 : decode cX4_keep 50 = .ok (.getfield 10, 3) := by decide +kernel
theorem dX4_keep_53 : decode cX4_keep 53 = .ok (.getfield 79, 3) := by decide +kernel
theorem dX4_keep_56 : decode cX4_keep 56 = .ok (.aaload, 1) := by decide +kernel
theorem dX4_keep_57 : decode cX4_keep 57 = .ok (.astore_n 1, 1) := by decide +kernel
theorem dX4_keep_58 : decode cX4_keep 58 = .ok (.aload_n 1, 1) := by decide +kernel
theorem dX4_keep_59 : decode cX4_keep 59 = .ok (.aload_n 0, 1) := by decide +kernel
theorem dX4_keep_60 : decode cX4_keep 60 = .ok (.getfield 10, 3) := by decide +kernel
theorem dX4_keep_63 : decode cX4_keep 63 = .ok (.getfield 82, 3) := by decide +kernel
theorem dX4_keep_66 : decode cX4_keep 66 = .ok (.putfield 93, 3) := by decide +kernel
theorem dX4_keep_69 : decode cX4_keep 69 = .ok (.aload_n 1, 1) := by decide +kernel
theorem dX4_keep_70 : decode cX4_keep 70 = .ok (.aload_n 0, 1) := by decide +kernel
theorem dX4_keep_71 : decode cX4_keep 71 = .ok (.getfield 10, 3) := by decide +kernel
theorem dX4_keep_74 : decode cX4_keep 74 = .ok (.getfield 54, 3) := by decide +kernel
theorem dX4_keep_77 : decode cX4_keep 77 = .ok (.putfield 98, 3) := by decide +kernel
theorem dX4_keep_80 : decode cX4_keep 80 = .ok (.aload_n 1, 1) := by decide +kernel
theorem dX4_keep_81 : decode cX4_keep 81 = .ok (.aload_n 0, 1) := by decide +kernel
theorem dX4_keep_82 : decode cX4_keep 82 = .ok (.getfield 10, 3) := by decide +kernel
theorem dX4_keep_85 : decode cX4_keep 85 = .ok (.getfield 51, 3) := by decide +kernel
theorem dX4_keep_88 : decode cX4_keep 88 = .ok (.aload_n 0, 1) := by decide +kernel
theorem dX4_keep_89 : decode cX4_keep 89 = .ok (.getfield 10, 3) := by decide +kernel
theorem dX4_keep_92 : decode cX4_keep 92 = .ok (.getfield 54, 3) := by decide +kernel
theorem dX4_keep_95 : decode cX4_keep 95 = .ok (.invokestatic 99, 3) := by decide +kernel
theorem dX4_keep_98 : decode cX4_keep 98 = .ok (.putfield 102, 3) := by decide +kernel
theorem dX4_keep_101 : decode cX4_keep 101 = .ok (.aload_n 0, 1) := by decide +kernel
theorem dX4_keep_102 : decode cX4_keep 102 = .ok (.invokevirtual 105, 3) := by decide +kernel
theorem dX4_keep_105 : decode cX4_keep 105 = .ok (.istore_n 2, 1) := by decide +kernel
theorem dX4_keep_106 : decode cX4_keep 106 = .ok (.iload_n 2, 1) := by decide +kernel
theorem dX4_keep_107 : decode cX4_keep 107 = .ok (.iconst (-1), 1) := by decide +kernel
theorem dX4_keep_108 : decode cX4_keep 108 = .ok (.if_icmp .ne 17, 3) := by decide +kernel
theorem dX4_keep_111 : decode cX4_keep 111 = .ok (.aload_n 1, 1) := by decide +kernel
theorem dX4_keep_112 : decode cX4_keep 112 = .ok (.aload_n 0, 1) := by decide +kernel
theorem dX4_keep_113 : decode cX4_keep 113 = .ok (.getfield 10, 3) := by decide +kernel
theorem dX4_keep_116 : decode cX4_keep 116 = .ok (.getfield 51, 3) := by decide +kernel
theorem dX4_keep_119 : decode cX4_keep 119 = .ok (.invokevirtual 109, 3) := by decide +kernel
theorem dX4_keep_122 : decode cX4_keep 122 = .ok (.goto 41, 3) := by decide +kernel
theorem dX4_keep_125 : decode cX4_keep 125 = .ok (.aload_n 0, 1) := by decide +kernel
theorem dX4_keep_126 : decode cX4_keep 126 = .ok (.iload_n 2, 1) := by decide +kernel
theorem dX4_keep_127 : decode cX4_keep 127 = .ok (.aload_n 0, 1) := by decide +kernel
theorem dX4_keep_128 : decode cX4_keep 128 = .ok (.getfield 10, 3) := by decide +kernel
theorem dX4_keep_131 : decode cX4_keep 131 = .ok (.getfield 54, 3) := by decide +kernel
theorem dX4_keep_134 : decode cX4_keep 134 = .ok (.aload_n 0, 1) := by decide +kernel
theorem dX4_keep_135 : decode cX4_keep 135 = .ok (.getfield 38, 3) := by decide +kernel
theorem dX4_keep_138 : decode cX4_keep 138 = .ok (.invokevirtual 113, 3) := by decide +kernel
theorem dX4_keep_141 : decode cX4_keep 141 = .ok (.aload_n 1, 1) := by decide +kernel
theorem dX4_keep_142 : decode cX4_keep 142 = .ok (.aload_n 0, 1) := by decide +kernel
theorem dX4_keep_143 : decode cX4_keep 143 = .ok (.getfield 10, 3) := by decide +kernel
theorem dX4_keep_146 : decode cX4_keep 146 = .ok (.getfield 117, 3) := by decide +kernel
theorem dX4_keep_149 : decode cX4_keep 149 = .ok (.aload_n 0, 1) := by decide +kernel
theorem dX4_keep_150 : decode cX4_keep 150 = .ok (.getfield 38, 3) := by decide +kernel
theorem dX4_keep_153 : decode cX4_keep 153 = .ok (.aload_n 0, 1) := by decide +kernel
theorem dX4_keep_154 : decode cX4_keep 154 = .ok (.getfield 10, 3) := by decide +kernel
theorem dX4_keep_157 : decode cX4_keep 157 = .ok (.getfield 51, 3) := by decide +kernel
theorem dX4_keep_160 : decode cX4_keep 160 = .ok (.invokevirtual 120, 3) := by decide +kernel
theorem dX4_keep_163 : decode cX4_keep 163 = .ok (.aload_n 0, 1) := by decide +kernel
theorem dX4_keep_164 : decode cX4_keep 164 = .ok (.getfield 10, 3) := by decide +kernel
theorem dX4_keep_167 : decode cX4_keep 167 = .ok (.dup, 1) := by decide +kernel
theorem dX4_keep_168 : decode cX4_keep 168 = .ok (.getfield 79, 3) := by decide +kernel
theorem dX4_keep_171 : decode cX4_keep 171 = .ok (.iconst 1, 1) := by decide +kernel
theorem dX4_keep_172 : decode cX4_keep 172 = .ok (.iadd, 1) := by decide +kernel
theorem dX4_keep_173 : decode cX4_keep 173 = .ok (.putfield 79, 3) := by decide +kernel
theorem dX4_keep_176 : decode cX4_keep 176 = .ok (.aload_n 0, 1) := by decide +kernel
theorem dX4_keep_177 : decode cX4_keep 177 = .ok (.getfield 10, 3) := by decide +kernel
theorem dX4_keep_180 : decode cX4_keep 180 = .ok (.dup, 1) := by decide +kernel
theorem dX4_keep_181 : decode cX4_keep 181 = .ok (.getfield 82, 3) := by decide +kernel
theorem dX4_keep_184 : decode cX4_keep 184 = .ok (.iconst 1, 1) := by decide +kernel
theorem dX4_keep_185 : decode cX4_keep 185 = .ok (.iadd, 1) := by decide +kernel
theorem dX4_keep_186 : decode cX4_keep 186 = .ok (.putfield 82, 3) := by decide +kernel
theorem dX4_keep_189 : decode cX4_keep 189 = .ok (.aload_n 0, 1) := by decide +kernel
theorem dX4_keep_190 : decode cX4_keep 190 = .ok (.getfield 10, 3) := by decide +kernel
theorem dX4_keep_193 : decode cX4_keep 193 = .ok (.aload_n 1, 1) := by decide +kernel
theorem dX4_keep_194 : decode cX4_keep 194 = .ok (.getfield 93, 3) := by decide +kernel
theorem dX4_keep_197 : decode cX4_keep 197 = .ok (.putfield 117, 3) := by decide +kernel
theorem dX4_keep_200 : decode cX4_keep 200 = .ok (.aload_n 1, 1) := by decide +kernel
theorem dX4_keep_201 : decode cX4_keep 201 = .ok (.getfield 93, 3) := by decide +kernel
theorem dX4_keep_204 : decode cX4_keep 204 = .ok (.ireturn, 1) := by decide +kernel
theorem dX4_load_0 : decode cX4_load 0 = .ok (.aload_n 0, 1) := by decide +kernel
theorem dX4_load_1 : decode cX4_load 1 = .ok (.getfield 10, 3) := by decide +kernel
theorem dX4_load_4 : decode cX4_load 4 = .ok (.iload_n 1, 1) := by decide +kernel
theorem dX4_load_5 : decode cX4_load 5 = .ok (.invokevirtual 124, 3) := by decide +kernel
theorem dX4_load_8 : decode cX4_load 8 = .ok (.istore_n 2, 1) := by decide +kernel
theorem dX4_load_9 : decode cX4_load 9 = .ok (.iload_n 2, 1) := by decide +kernel
theorem dX4_load_10 : decode cX4_load 10 = .ok (.iconst (-1), 1) := by decide +kernel
theorem dX4_load_11 : decode cX4_load 11 = .ok (.if_icmp .ne 6, 3) := by decide +kernel
theorem dX4_load_14 : decode cX4_load 14 = .ok (.bipush (-2), 2) := by decide +kernel
theorem dX4_load_16 : decode cX4_load 16 = .ok (.ireturn, 1) := by decide +kernel
theorem dX4_load_17 : decode cX4_load 17 = .ok (.aload_n 0, 1) := by decide +kernel
theorem dX4_load_18 : decode cX4_load 18 = .ok (.getfield 34, 3) := by decide +kernel
theorem dX4_load_21 : decode cX4_load 21 = .ok (.aload_n 0, 1) := by decide +kernel
theorem dX4_load_22 : decode cX4_load 22 = .ok (.getfield 10, 3) := by decide +kernel
theorem dX4_load_25 : decode cX4_load 25 = .ok (.invokevirtual 85, 3) := by decide +kernel
theorem dX4_load_28 : decode cX4_load 28 = .ok (.aload_n 0, 1) := by decide +kernel
theorem dX4_load_29 : decode cX4_load 29 = .ok (.getfield 34, 3) := by decide +kernel
theorem dX4_load_32 : decode cX4_load 32 = .ok (.getfield 127, 3) := by decide +kernel
theorem dX4_load_35 : decode cX4_load 35 = .ok (.iload_n 2, 1) := by decide +kernel
theorem dX4_load_36 : decode cX4_load 36 = .ok (.iaload, 1) := by decide +kernel
theorem dX4_load_37 : decode cX4_load 37 = .ok (.iconst (-1), 1) := by decide +kernel
theorem dX4_load_38 : decode cX4_load 38 = .ok (.if_icmp .eq 6, 3) := by decide +kernel
theorem dX4_load_41 : decode cX4_load 41 = .ok (.bipush (-3), 2) := by decide +kernel
theorem dX4_load_43 : decode cX4_load 43 = .ok (.ireturn, 1) := by decide +kernel
theorem dX4_load_44 : decode cX4_load 44 = .ok (.aload_n 0, 1) := by decide +kernel
theorem dX4_load_45 : decode cX4_load 45 = .ok (.invokevirtual 65, 3) := by decide +kernel
theorem dX4_load_48 : decode cX4_load 48 = .ok (.aload_n 0, 1) := by decide +kernel
theorem dX4_load_49 : decode cX4_load 49 = .ok (.getfield 10, 3) := by decide +kernel
theorem dX4_load_52 : decode cX4_load 52 = .ok (.getfield 89, 3) := by decide +kernel
theorem dX4_load_55 : decode cX4_load 55 = .ok (.iload_n 2, 1) := by decide +kernel
theorem dX4_load_56 : decode cX4_load 56 = .ok (.aaload, 1) := by decide +kernel
theorem dX4_load_57 : decode cX4_load 57 = .ok (.getfield 98, 3) := by decide +kernel
theorem dX4_load_60 : decode cX4_load 60 = .ok (.istore_n 3, 1) := by decide +kernel
theorem dX4_load_61 : decode cX4_load 61 = .ok (.aload_n 0, 1) := by decide +kernel
theorem dX4_load_62 : decode cX4_load 62 = .ok (.getfield 10, 3) := by decide +kernel
theorem dX4_load_65 : decode cX4_load 65 = .ok (.getfield 130, 3) := by decide +kernel
theorem dX4_load_68 : decode cX4_load 68 = .ok (.iconst 1, 1) := by decide +kernel
theorem dX4_load_69 : decode cX4_load 69 = .ok (.iaload, 1) := by decide +kernel
theorem dX4_load_70 : decode cX4_load 70 = .ok (.iconst 1, 1) := by decide +kernel
theorem dX4_load_71 : decode cX4_load 71 = .ok (.if_icmp .ne 15, 3) := by decide +kernel
theorem dX4_load_74 : decode cX4_load 74 = .ok (.iload_n 3, 1) := by decide +kernel
theorem dX4_load_75 : decode cX4_load 75 = .ok (.aload_n 0, 1) := by decide +kernel
theorem dX4_load_76 : decode cX4_load 76 = .ok (.getfield 10, 3) := by decide +kernel
theorem dX4_load_79 : decode cX4_load 79 = .ok (.getfield 54, 3) := by decide +kernel
theorem dX4_load_82 : decode cX4_load 82 = .ok (.invokestatic 133, 3) := by decide +kernel
theorem dX4_load_85 : decode cX4_load 85 = .ok (.istore_n 3, 1) := by decide +kernel
theorem dX4_load_86 : decode cX4_load 86 = .ok (.aload_n 0, 1) := by decide +kernel
theorem dX4_load_87 : decode cX4_load 87 = .ok (.iload_n 2, 1) := by decide +kernel
theorem dX4_load_88 : decode cX4_load 88 = .ok (.iload_n 3, 1) := by decide +kernel
theorem dX4_load_89 : decode cX4_load 89 = .ok (.aload_n 0, 1) := by decide +kernel
theorem dX4_load_90 : decode cX4_load 90 = .ok (.getfield 10, 3) := by decide +kernel
theorem dX4_load_93 : decode cX4_load 93 = .ok (.getfield 51, 3) := by decide +kernel
theorem dX4_load_96 : decode cX4_load 96 = .ok (.invokevirtual 113, 3) := by decide +kernel
theorem dX4_load_99 : decode cX4_load 99 = .ok (.aload_n 0, 1) := by decide +kernel
theorem dX4_load_100 : decode cX4_load 100 = .ok (.getfield 10, 3) := by decide +kernel
theorem dX4_load_103 : decode cX4_load 103 = .ok (.iload_n 3, 1) := by decide +kernel
theorem dX4_load_104 : decode cX4_load 104 = .ok (.putfield 54, 3) := by decide +kernel
theorem dX4_load_107 : decode cX4_load 107 = .ok (.aload_n 0, 1) := by decide +kernel
theorem dX4_load_108 : decode cX4_load 108 = .ok (.getfield 10, 3) := by decide +kernel
theorem dX4_load_111 : decode cX4_load 111 = .ok (.iload_n 1, 1) := by decide +kernel
theorem dX4_load_112 : decode cX4_load 112 = .ok (.putfield 117, 3) := by decide +kernel
theorem dX4_load_115 : decode cX4_load 115 = .ok (.iload_n 3, 1) := by decide +kernel
theorem dX4_load_116 : decode cX4_load 116 = .ok (.ireturn, 1) := by decide +kernel
theorem dX4_drop_0 : decode cX4_drop 0 = .ok (.aload_n 0, 1) := by decide +kernel
theorem dX4_drop_1 : decode cX4_drop 1 = .ok (.getfield 10, 3) := by decide +kernel
theorem dX4_drop_4 : decode cX4_drop 4 = .ok (.iload_n 1, 1) := by decide +kernel
theorem dX4_drop_5 : decode cX4_drop 5 = .ok (.invokevirtual 124, 3) := by decide +kernel
theorem dX4_drop_8 : decode cX4_drop 8 = .ok (.istore_n 3, 1) := by decide +kernel
theorem dX4_drop_9 : decode cX4_drop 9 = .ok (.iload_n 3, 1) := by decide +kernel
theorem dX4_drop_10 : decode cX4_drop 10 = .ok (.iconst (-1), 1) := by decide +kernel
theorem dX4_drop_11 : decode cX4_drop 11 = .ok (.if_icmp .ne 6, 3) := by decide +kernel
theorem dX4_drop_14 : decode cX4_drop 14 = .ok (.bipush (-2), 2) := by decide +kernel
theorem dX4_drop_16 : decode cX4_drop 16 = .ok (.ireturn, 1) := by decide +kernel
theorem dX4_drop_17 : decode cX4_drop 17 = .ok (.aload_n 0, 1) := by decide +kernel
theorem dX4_drop_18 : decode cX4_drop 18 = .ok (.getfield 34, 3) := by decide +kernel
theorem dX4_drop_21 : decode cX4_drop 21 = .ok (.aload_n 0, 1) := by decide +kernel
theorem dX4_drop_22 : decode cX4_drop 22 = .ok (.getfield 10, 3) := by decide +kernel
theorem dX4_drop_25 : decode cX4_drop 25 = .ok (.invokevirtual 85, 3) := by decide +kernel
theorem dX4_drop_28 : decode cX4_drop 28 = .ok (.aload_n 0, 1) := by decide +kernel
theorem dX4_drop_29 : decode cX4_drop 29 = .ok (.invokevirtual 65, 3) := by decide +kernel
theorem dX4_drop_32 : decode cX4_drop 32 = .ok (.iload_n 2, 1) := by decide +kernel
theorem dX4_drop_33 : decode cX4_drop 33 = .ok (.ifCond .eq 8, 3) := by decide +kernel
theorem dX4_drop_36 : decode cX4_drop 36 = .ok (.aload_n 0, 1) := by decide +kernel
theorem dX4_drop_37 : decode cX4_drop 37 = .ok (.iload_n 1, 1) := by decide +kernel
theorem dX4_drop_38 : decode cX4_drop 38 = .ok (.invokevirtual 139, 3) := by decide +kernel
theorem dX4_drop_41 : decode cX4_drop 41 = .ok (.aload_n 0, 1) := by decide +kernel
theorem dX4_drop_42 : decode cX4_drop 42 = .ok (.getfield 10, 3) := by decide +kernel
theorem dX4_drop_45 : decode cX4_drop 45 = .ok (.iload_n 3, 1) := by decide +kernel
theorem dX4_drop_46 : decode cX4_drop 46 = .ok (.invokevirtual 143, 3) := by decide +kernel
theorem dX4_drop_49 : decode cX4_drop 49 = .ok (.aload_n 0, 1) := by decide +kernel
theorem dX4_drop_50 : decode cX4_drop 50 = .ok (.getfield 10, 3) := by decide +kernel
theorem dX4_drop_53 : decode cX4_drop 53 = .ok (.getfield 117, 3) := by decide +kernel
theorem dX4_drop_56 : decode cX4_drop 56 = .ok (.iload_n 1, 1) := by decide +kernel
theorem dX4_drop_57 : decode cX4_drop 57 = .ok (.if_icmp .ne 11, 3) := by decide +kernel
theorem dX4_drop_60 : decode cX4_drop 60 = .ok (.aload_n 0, 1) := by decide +kernel
theorem dX4_drop_61 : decode cX4_drop 61 = .ok (.getfield 10, 3) := by decide +kernel
theorem dX4_drop_64 : decode cX4_drop 64 = .ok (.iconst (-1), 1) := by decide +kernel
theorem dX4_drop_65 : decode cX4_drop 65 = .ok (.putfield 117, 3) := by decide +kernel
theorem dX4_drop_68 : decode cX4_drop 68 = .ok (.aload_n 0, 1) := by decide +kernel
theorem dX4_drop_69 : decode cX4_drop 69 = .ok (.getfield 10, 3) := by decide +kernel
theorem dX4_drop_72 : decode cX4_drop 72 = .ok (.iload_n 1, 1) := by decide +kernel
theorem dX4_drop_73 : decode cX4_drop 73 = .ok (.invokevirtual 146, 3) := by decide +kernel
theorem dX4_drop_76 : decode cX4_drop 76 = .ok (.ireturn, 1) := by decide +kernel
theorem dX4_alter_0 : decode cX4_alter 0 = .ok (.aload_n 0, 1) := by decide +kernel
theorem dX4_alter_1 : decode cX4_alter 1 = .ok (.getfield 10, 3) := by decide +kernel
theorem dX4_alter_4 : decode cX4_alter 4 = .ok (.iload_n 1, 1) := by decide +kernel
theorem dX4_alter_5 : decode cX4_alter 5 = .ok (.invokevirtual 124, 3) := by decide +kernel
theorem dX4_alter_8 : decode cX4_alter 8 = .ok (.istore 4, 2) := by decide +kernel
theorem dX4_alter_10 : decode cX4_alter 10 = .ok (.iload 4, 2) := by decide +kernel
theorem dX4_alter_12 : decode cX4_alter 12 = .ok (.iconst (-1), 1) := by decide +kernel
theorem dX4_alter_13 : decode cX4_alter 13 = .ok (.if_icmp .eq 13, 3) := by decide +kernel
theorem dX4_alter_16 : decode cX4_alter 16 = .ok (.iload_n 3, 1) := by decide +kernel
theorem dX4_alter_17 : decode cX4_alter 17 = .ok (.ifCond .lt 9, 3) := by decide +kernel
theorem dX4_alter_20 : decode cX4_alter 20 = .ok (.iload_n 3, 1) := by decide +kernel
theorem dX4_alter_21 : decode cX4_alter 21 = .ok (.bipush 99, 2) := by decide +kernel
theorem dX4_alter_23 : decode cX4_alter 23 = .ok (.if_icmp .le 6, 3) := by decide +kernel
theorem dX4_alter_26 : decode cX4_alter 26 = .ok (.bipush (-2), 2) := by decide +kernel
theorem dX4_alter_28 : decode cX4_alter 28 = .ok (.ireturn, 1) := by decide +kernel
theorem dX4_alter_29 : decode cX4_alter 29 = .ok (.aload_n 0, 1) := by decide +kernel
theorem dX4_alter_30 : decode cX4_alter 30 = .ok (.getfield 10, 3) := by decide +kernel
theorem dX4_alter_33 : decode cX4_alter 33 = .ok (.getfield 89, 3) := by decide +kernel
theorem dX4_alter_36 : decode cX4_alter 36 = .ok (.iload 4, 2) := by decide +kernel
theorem dX4_alter_38 : decode cX4_alter 38 = .ok (.aaload, 1) := by decide +kernel
theorem dX4_alter_39 : decode cX4_alter 39 = .ok (.astore 5, 2) := by decide +kernel
theorem dX4_alter_41 : decode cX4_alter 41 = .ok (.iload_n 2, 1) := by decide +kernel
theorem dX4_alter_42 : decode cX4_alter 42 = .ok (.ifCond .lt 12, 3) := by decide +kernel
theorem dX4_alter_45 : decode cX4_alter 45 = .ok (.iload_n 2, 1) := by decide +kernel
theorem dX4_alter_46 : decode cX4_alter 46 = .ok (.aload 5, 2) := by decide +kernel
theorem dX4_alter_48 : decode cX4_alter 48 = .ok (.getfield 149, 3) := by decide +kernel
theorem dX4_alter_51 : decode cX4_alter 51 = .ok (.if_icmp .lt 6, 3) := by decide +kernel
theorem dX4_alter_54 : decode cX4_alter 54 = .ok (.bipush (-2), 2) := by decide +kernel
theorem dX4_alter_56 : decode cX4_alter 56 = .ok (.ireturn, 1) := by decide +kernel
theorem dX4_alter_57 : decode cX4_alter 57 = .ok (.aload_n 0, 1) := by decide +kernel
theorem dX4_alter_58 : decode cX4_alter 58 = .ok (.invokevirtual 65, 3) := by decide +kernel
theorem dX4_alter_61 : decode cX4_alter 61 = .ok (.aload 5, 2) := by decide +kernel
theorem dX4_alter_63 : decode cX4_alter 63 = .ok (.getfield 150, 3) := by decide +kernel
theorem dX4_alter_66 : decode cX4_alter 66 = .ok (.iload_n 2, 1) := by decide +kernel
theorem dX4_alter_67 : decode cX4_alter 67 = .ok (.iaload, 1) := by decide +kernel
theorem dX4_alter_68 : decode cX4_alter 68 = .ok (.istore 6, 2) := by decide +kernel
theorem dX4_alter_70 : decode cX4_alter 70 = .ok (.aload 5, 2) := by decide +kernel
theorem dX4_alter_72 : decode cX4_alter 72 = .ok (.getfield 150, 3) := by decide +kernel
theorem dX4_alter_75 : decode cX4_alter 75 = .ok (.iload_n 2, 1) := by decide +kernel
theorem dX4_alter_76 : decode cX4_alter 76 = .ok (.iload_n 3, 1) := by decide +kernel
theorem dX4_alter_77 : decode cX4_alter 77 = .ok (.iastore, 1) := by decide +kernel
theorem dX4_alter_78 : decode cX4_alter 78 = .ok (.iload 6, 2) := by decide +kernel
theorem dX4_alter_80 : decode cX4_alter 80 = .ok (.ireturn, 1) := by decide +kernel
theorem dX4_pack_0 : decode cX4_pack 0 = .ok (.aload_n 0, 1) := by decide +kernel
theorem dX4_pack_1 : decode cX4_pack 1 = .ok (.getfield 34, 3) := by decide +kernel
theorem dX4_pack_4 : decode cX4_pack 4 = .ok (.aload_n 0, 1) := by decide +kernel
theorem dX4_pack_5 : decode cX4_pack 5 = .ok (.getfield 10, 3) := by decide +kernel
theorem dX4_pack_8 : decode cX4_pack 8 = .ok (.invokevirtual 85, 3) := by decide +kernel
theorem dX4_pack_11 : decode cX4_pack 11 = .ok (.aload_n 0, 1) := by decide +kernel
theorem dX4_pack_12 : decode cX4_pack 12 = .ok (.invokevirtual 65, 3) := by decide +kernel
theorem dX4_pack_15 : decode cX4_pack 15 = .ok (.aload_n 0, 1) := by decide +kernel
theorem dX4_pack_16 : decode cX4_pack 16 = .ok (.getfield 10, 3) := by decide +kernel
theorem dX4_pack_19 : decode cX4_pack 19 = .ok (.invokevirtual 151, 3) := by decide +kernel
theorem dX4_pack_22 : decode cX4_pack 22 = .ok (.istore_n 1, 1) := by decide +kernel
theorem dX4_pack_23 : decode cX4_pack 23 = .ok (.iconst 0, 1) := by decide +kernel
theorem dX4_pack_24 : decode cX4_pack 24 = .ok (.istore_n 2, 1) := by decide +kernel
theorem dX4_pack_25 : decode cX4_pack 25 = .ok (.iload_n 2, 1) := by decide +kernel
theorem dX4_pack_26 : decode cX4_pack 26 = .ok (.aload_n 0, 1) := by decide +kernel
theorem dX4_pack_27 : decode cX4_pack 27 = .ok (.getfield 10, 3) := by decide +kernel
theorem dX4_pack_30 : decode cX4_pack 30 = .ok (.getfield 79, 3) := by decide +kernel
theorem dX4_pack_33 : decode cX4_pack 33 = .ok (.if_icmp .ge 27, 3) := by decide +kernel
theorem dX4_pack_36 : decode cX4_pack 36 = .ok (.aload_n 0, 1) := by decide +kernel
theorem dX4_pack_37 : decode cX4_pack 37 = .ok (.getfield 34, 3) := by decide +kernel
theorem dX4_pack_40 : decode cX4_pack 40 = .ok (.getfield 127, 3) := by decide +kernel
theorem dX4_pack_43 : decode cX4_pack 43 = .ok (.iload_n 2, 1) := by decide +kernel
theorem dX4_pack_44 : decode cX4_pack 44 = .ok (.iaload, 1) := by decide +kernel
theorem dX4_pack_45 : decode cX4_pack 45 = .ok (.iconst (-1), 1) := by decide +kernel
theorem dX4_pack_46 : decode cX4_pack 46 = .ok (.if_icmp .ne 8, 3) := by decide +kernel
theorem dX4_pack_49 : decode cX4_pack 49 = .ok (.aload_n 0, 1) := by decide +kernel
theorem dX4_pack_50 : decode cX4_pack 50 = .ok (.iload_n 2, 1) := by decide +kernel
theorem dX4_pack_51 : decode cX4_pack 51 = .ok (.invokevirtual 154, 3) := by decide +kernel
theorem dX4_pack_54 : decode cX4_pack 54 = .ok (.iinc 2 1, 3) := by decide +kernel
theorem dX4_pack_57 : decode cX4_pack 57 = .ok (.goto (-32), 3) := by decide +kernel
theorem dX4_pack_60 : decode cX4_pack 60 = .ok (.iload_n 1, 1) := by decide +kernel
theorem dX4_pack_61 : decode cX4_pack 61 = .ok (.aload_n 0, 1) := by decide +kernel
theorem dX4_pack_62 : decode cX4_pack 62 = .ok (.getfield 10, 3) := by decide +kernel
theorem dX4_pack_65 : decode cX4_pack 65 = .ok (.invokevirtual 151, 3) := by decide +kernel
theorem dX4_pack_68 : decode cX4_pack 68 = .ok (.isub, 1) := by decide +kernel
theorem dX4_pack_69 : decode cX4_pack 69 = .ok (.ireturn, 1) := by decide +kernel
theorem dX4_set_0 : decode cX4_set 0 = .ok (.iload_n 1, 1) := by decide +kernel
theorem dX4_set_1 : decode cX4_set 1 = .ok (.ifCond .lt 8, 3) := by decide +kernel
theorem dX4_set_4 : decode cX4_set 4 = .ok (.iload_n 1, 1) := by decide +kernel
theorem dX4_set_5 : decode cX4_set 5 = .ok (.iconst 2, 1) := by decide +kernel
theorem dX4_set_6 : decode cX4_set 6 = .ok (.if_icmp .lt 6, 3) := by decide +kernel
theorem dX4_set_9 : decode cX4_set 9 = .ok (.bipush (-2), 2) := by decide +kernel
theorem dX4_set_11 : decode cX4_set 11 = .ok (.ireturn, 1) := by decide +kernel
theorem dX4_set_12 : decode cX4_set 12 = .ok (.iload_n 1, 1) := by decide +kernel
theorem dX4_set_13 : decode cX4_set 13 = .ok (.ifCond .ne 7, 3) := by decide +kernel
theorem dX4_set_16 : decode cX4_set 16 = .ok (.iconst 1, 1) := by decide +kernel
theorem dX4_set_17 : decode cX4_set 17 = .ok (.goto 4, 3) := by decide +kernel
theorem dX4_set_20 : decode cX4_set 20 = .ok (.iconst 0, 1) := by decide +kernel
theorem dX4_set_21 : decode cX4_set 21 = .ok (.istore_n 3, 1) := by decide +kernel
theorem dX4_set_22 : decode cX4_set 22 = .ok (.iload_n 1, 1) := by decide +kernel
theorem dX4_set_23 : decode cX4_set 23 = .ok (.ifCond .ne 8, 3) := by decide +kernel
theorem dX4_set_26 : decode cX4_set 26 = .ok (.bipush 8, 2) := by decide +kernel
theorem dX4_set_28 : decode cX4_set 28 = .ok (.goto 4, 3) := by decide +kernel
theorem dX4_set_31 : decode cX4_set 31 = .ok (.iconst 1, 1) := by decide +kernel
theorem dX4_set_32 : decode cX4_set 32 = .ok (.istore 4, 2) := by decide +kernel
theorem dX4_set_34 : decode cX4_set 34 = .ok (.iload_n 2, 1) := by decide +kernel
theorem dX4_set_35 : decode cX4_set 35 = .ok (.iload_n 3, 1) := by decide +kernel
theorem dX4_set_36 : decode cX4_set 36 = .ok (.if_icmp .lt 9, 3) := by decide +kernel
theorem dX4_set_39 : decode cX4_set 39 = .ok (.iload_n 2, 1) := by decide +kernel
theorem dX4_set_40 : decode cX4_set 40 = .ok (.iload 4, 2) := by decide +kernel
theorem dX4_set_42 : decode cX4_set 42 = .ok (.if_icmp .le 6, 3) := by decide +kernel
theorem dX4_set_45 : decode cX4_set 45 = .ok (.bipush (-2), 2) := by decide +kernel
theorem dX4_set_47 : decode cX4_set 47 = .ok (.ireturn, 1) := by decide +kernel
theorem dX4_set_48 : decode cX4_set 48 = .ok (.aload_n 0, 1) := by decide +kernel
theorem dX4_set_49 : decode cX4_set 49 = .ok (.invokevirtual 65, 3) := by decide +kernel
theorem dX4_set_52 : decode cX4_set 52 = .ok (.aload_n 0, 1) := by decide +kernel
theorem dX4_set_53 : decode cX4_set 53 = .ok (.getfield 10, 3) := by decide +kernel
theorem dX4_set_56 : decode cX4_set 56 = .ok (.getfield 130, 3) := by decide +kernel
theorem dX4_set_59 : decode cX4_set 59 = .ok (.iload_n 1, 1) := by decide +kernel
theorem dX4_set_60 : decode cX4_set 60 = .ok (.iaload, 1) := by decide +kernel
theorem dX4_set_61 : decode cX4_set 61 = .ok (.istore 5, 2) := by decide +kernel
theorem dX4_set_63 : decode cX4_set 63 = .ok (.aload_n 0, 1) := by decide +kernel
theorem dX4_set_64 : decode cX4_set 64 = .ok (.getfield 10, 3) := by decide +kernel
theorem dX4_set_67 : decode cX4_set 67 = .ok (.getfield 130, 3) := by decide +kernel
theorem dX4_set_70 : decode cX4_set 70 = .ok (.iload_n 1, 1) := by decide +kernel
theorem dX4_set_71 : decode cX4_set 71 = .ok (.iload_n 2, 1) := by decide +kernel
theorem dX4_set_72 : decode cX4_set 72 = .ok (.iastore, 1) := by decide +kernel
theorem dX4_set_73 : decode cX4_set 73 = .ok (.iload 5, 2) := by decide +kernel
theorem dX4_set_75 : decode cX4_set 75 = .ok (.ireturn, 1) := by decide +kernel
theorem dX4_undo_0 : decode cX4_undo 0 = .ok (.aload_n 0, 1) := by decide +kernel
theorem dX4_undo_1 : decode cX4_undo 1 = .ok (.getfield 20, 3) := by decide +kernel
theorem dX4_undo_4 : decode cX4_undo 4 = .ok (.ifCond .gt 6, 3) := by decide +kernel
theorem dX4_undo_7 : decode cX4_undo 7 = .ok (.bipush (-3), 2) := by decide +kernel
theorem dX4_undo_9 : decode cX4_undo 9 = .ok (.ireturn, 1) := by decide +kernel
theorem dX4_undo_10 : decode cX4_undo 10 = .ok (.aload_n 0, 1) := by decide +kernel
theorem dX4_undo_11 : decode cX4_undo 11 = .ok (.dup, 1) := by decide +kernel
theorem dX4_undo_12 : decode cX4_undo 12 = .ok (.getfield 20, 3) := by decide +kernel
theorem dX4_undo_15 : decode cX4_undo 15 = .ok (.iconst 1, 1) := by decide +kernel
theorem dX4_undo_16 : decode cX4_undo 16 = .ok (.isub, 1) := by decide +kernel
theorem dX4_undo_17 : decode cX4_undo 17 = .ok (.putfield 20, 3) := by decide +kernel
theorem dX4_undo_20 : decode cX4_undo 20 = .ok (.aload_n 0, 1) := by decide +kernel
theorem dX4_undo_21 : decode cX4_undo 21 = .ok (.getfield 10, 3) := by decide +kernel
theorem dX4_undo_24 : decode cX4_undo 24 = .ok (.aload_n 0, 1) := by decide +kernel
theorem dX4_undo_25 : decode cX4_undo 25 = .ok (.getfield 16, 3) := by decide +kernel
theorem dX4_undo_28 : decode cX4_undo 28 = .ok (.aload_n 0, 1) := by decide +kernel
theorem dX4_undo_29 : decode cX4_undo 29 = .ok (.getfield 20, 3) := by decide +kernel
theorem dX4_undo_32 : decode cX4_undo 32 = .ok (.aaload, 1) := by decide +kernel
theorem dX4_undo_33 : decode cX4_undo 33 = .ok (.invokevirtual 157, 3) := by decide +kernel
theorem dX4_undo_36 : decode cX4_undo 36 = .ok (.aload_n 0, 1) := by decide +kernel
theorem dX4_undo_37 : decode cX4_undo 37 = .ok (.getfield 20, 3) := by decide +kernel
theorem dX4_undo_40 : decode cX4_undo 40 = .ok (.ireturn, 1) := by decide +kernel
theorem dX4_value_0 : decode cX4_value 0 = .ok (.iload_n 1, 1) := by decide +kernel
theorem dX4_value_1 : decode cX4_value 1 = .ok (.ifCond .ge 6, 3) := by decide +kernel
theorem dX4_value_4 : decode cX4_value 4 = .ok (.bipush (-2), 2) := by decide +kernel
theorem dX4_value_6 : decode cX4_value 6 = .ok (.ireturn, 1) := by decide +kernel
theorem dX4_value_7 : decode cX4_value 7 = .ok (.iload_n 1, 1) := by decide +kernel
theorem dX4_value_8 : decode cX4_value 8 = .ok (.aload_n 0, 1) := by decide +kernel
theorem dX4_value_9 : decode cX4_value 9 = .ok (.getfield 10, 3) := by decide +kernel
theorem dX4_value_12 : decode cX4_value 12 = .ok (.getfield 54, 3) := by decide +kernel
theorem dX4_value_15 : decode cX4_value 15 = .ok (.invokestatic 57, 3) := by decide +kernel
theorem dX4_value_18 : decode cX4_value 18 = .ok (.if_icmp .ge 15, 3) := by decide +kernel
theorem dX4_value_21 : decode cX4_value 21 = .ok (.aload_n 0, 1) := by decide +kernel
theorem dX4_value_22 : decode cX4_value 22 = .ok (.getfield 10, 3) := by decide +kernel
theorem dX4_value_25 : decode cX4_value 25 = .ok (.getfield 51, 3) := by decide +kernel
theorem dX4_value_28 : decode cX4_value 28 = .ok (.iload_n 1, 1) := by decide +kernel
theorem dX4_value_29 : decode cX4_value 29 = .ok (.iaload, 1) := by decide +kernel
theorem dX4_value_30 : decode cX4_value 30 = .ok (.goto 4, 3) := by decide +kernel
theorem dX4_value_33 : decode cX4_value 33 = .ok (.iconst (-1), 1) := by decide +kernel
theorem dX4_value_34 : decode cX4_value 34 = .ok (.ireturn, 1) := by decide +kernel
theorem dX4_kept_0 : decode cX4_kept 0 = .ok (.iload_n 1, 1) := by decide +kernel
theorem dX4_kept_1 : decode cX4_kept 1 = .ok (.ifCond .lt 13, 3) := by decide +kernel
theorem dX4_kept_4 : decode cX4_kept 4 = .ok (.iload_n 2, 1) := by decide +kernel
theorem dX4_kept_5 : decode cX4_kept 5 = .ok (.ifCond .lt 9, 3) := by decide +kernel
theorem dX4_kept_8 : decode cX4_kept 8 = .ok (.iload_n 2, 1) := by decide +kernel
theorem dX4_kept_9 : decode cX4_kept 9 = .ok (.bipush 8, 2) := by decide +kernel
theorem dX4_kept_11 : decode cX4_kept 11 = .ok (.if_icmp .lt 6, 3) := by decide +kernel
theorem dX4_kept_14 : decode cX4_kept 14 = .ok (.bipush (-2), 2) := by decide +kernel
theorem dX4_kept_16 : decode cX4_kept 16 = .ok (.ireturn, 1) := by decide +kernel
theorem dX4_kept_17 : decode cX4_kept 17 = .ok (.aload_n 0, 1) := by decide +kernel
theorem dX4_kept_18 : decode cX4_kept 18 = .ok (.getfield 10, 3) := by decide +kernel
theorem dX4_kept_21 : decode cX4_kept 21 = .ok (.iload_n 1, 1) := by decide +kernel
theorem dX4_kept_22 : decode cX4_kept 22 = .ok (.invokevirtual 124, 3) := by decide +kernel
theorem dX4_kept_25 : decode cX4_kept 25 = .ok (.istore_n 3, 1) := by decide +kernel
theorem dX4_kept_26 : decode cX4_kept 26 = .ok (.iload_n 3, 1) := by decide +kernel
theorem dX4_kept_27 : decode cX4_kept 27 = .ok (.iconst (-1), 1) := by decide +kernel
theorem dX4_kept_28 : decode cX4_kept 28 = .ok (.if_icmp .ne 5, 3) := by decide +kernel
theorem dX4_kept_31 : decode cX4_kept 31 = .ok (.iconst (-1), 1) := by decide +kernel
theorem dX4_kept_32 : decode cX4_kept 32 = .ok (.ireturn, 1) := by decide +kernel
theorem dX4_kept_33 : decode cX4_kept 33 = .ok (.aload_n 0, 1) := by decide +kernel
theorem dX4_kept_34 : decode cX4_kept 34 = .ok (.getfield 34, 3) := by decide +kernel
theorem dX4_kept_37 : decode cX4_kept 37 = .ok (.aload_n 0, 1) := by decide +kernel
theorem dX4_kept_38 : decode cX4_kept 38 = .ok (.getfield 10, 3) := by decide +kernel
theorem dX4_kept_41 : decode cX4_kept 41 = .ok (.invokevirtual 85, 3) := by decide +kernel
theorem dX4_kept_44 : decode cX4_kept 44 = .ok (.aload_n 0, 1) := by decide +kernel
theorem dX4_kept_45 : decode cX4_kept 45 = .ok (.iload_n 3, 1) := by decide +kernel
theorem dX4_kept_46 : decode cX4_kept 46 = .ok (.iload_n 2, 1) := by decide +kernel
theorem dX4_kept_47 : decode cX4_kept 47 = .ok (.invokevirtual 160, 3) := by decide +kernel
theorem dX4_kept_50 : decode cX4_kept 50 = .ok (.ireturn, 1) := by decide +kernel
theorem dX4_entry_0 : decode cX4_entry 0 = .ok (.iload_n 1, 1) := by decide +kernel
theorem dX4_entry_1 : decode cX4_entry 1 = .ok (.ifCond .lt 16, 3) := by decide +kernel
theorem dX4_entry_4 : decode cX4_entry 4 = .ok (.iload_n 2, 1) := by decide +kernel
theorem dX4_entry_5 : decode cX4_entry 5 = .ok (.ifCond .lt 12, 3) := by decide +kernel
theorem dX4_entry_8 : decode cX4_entry 8 = .ok (.iload_n 3, 1) := by decide +kernel
theorem dX4_entry_9 : decode cX4_entry 9 = .ok (.ifCond .lt 8, 3) := by decide +kernel
theorem dX4_entry_12 : decode cX4_entry 12 = .ok (.iload_n 3, 1) := by decide +kernel
theorem dX4_entry_13 : decode cX4_entry 13 = .ok (.iconst 2, 1) := by decide +kernel
theorem dX4_entry_14 : decode cX4_entry 14 = .ok (.if_icmp .lt 6, 3) := by decide +kernel
theorem dX4_entry_17 : decode cX4_entry 17 = .ok (.bipush (-2), 2) := by decide +kernel
theorem dX4_entry_19 : decode cX4_entry 19 = .ok (.ireturn, 1) := by decide +kernel
theorem dX4_entry_20 : decode cX4_entry 20 = .ok (.aload_n 0, 1) := by decide +kernel
theorem dX4_entry_21 : decode cX4_entry 21 = .ok (.getfield 10, 3) := by decide +kernel
theorem dX4_entry_24 : decode cX4_entry 24 = .ok (.iload_n 1, 1) := by decide +kernel
theorem dX4_entry_25 : decode cX4_entry 25 = .ok (.invokevirtual 124, 3) := by decide +kernel
theorem dX4_entry_28 : decode cX4_entry 28 = .ok (.istore 4, 2) := by decide +kernel
theorem dX4_entry_30 : decode cX4_entry 30 = .ok (.iload 4, 2) := by decide +kernel
theorem dX4_entry_32 : decode cX4_entry 32 = .ok (.iconst (-1), 1) := by decide +kernel
theorem dX4_entry_33 : decode cX4_entry 33 = .ok (.if_icmp .eq 20, 3) := by decide +kernel
theorem dX4_entry_36 : decode cX4_entry 36 = .ok (.iload_n 2, 1) := by decide +kernel
theorem dX4_entry_37 : decode cX4_entry 37 = .ok (.aload_n 0, 1) := by decide +kernel
theorem dX4_entry_38 : decode cX4_entry 38 = .ok (.getfield 10, 3) := by decide +kernel
theorem dX4_entry_41 : decode cX4_entry 41 = .ok (.getfield 89, 3) := by decide +kernel
theorem dX4_entry_44 : decode cX4_entry 44 = .ok (.iload 4, 2) := by decide +kernel
theorem dX4_entry_46 : decode cX4_entry 46 = .ok (.aaload, 1) := by decide +kernel
theorem dX4_entry_47 : decode cX4_entry 47 = .ok (.getfield 149, 3) := by decide +kernel
theorem dX4_entry_50 : decode cX4_entry 50 = .ok (.if_icmp .lt 5, 3) := by decide +kernel
theorem dX4_entry_53 : decode cX4_entry 53 = .ok (.iconst (-1), 1) := by decide +kernel
theorem dX4_entry_54 : decode cX4_entry 54 = .ok (.ireturn, 1) := by decide +kernel
theorem dX4_entry_55 : decode cX4_entry 55 = .ok (.aload_n 0, 1) := by decide +kernel
theorem dX4_entry_56 : decode cX4_entry 56 = .ok (.getfield 10, 3) := by decide +kernel
theorem dX4_entry_59 : decode cX4_entry 59 = .ok (.getfield 89, 3) := by decide +kernel
theorem dX4_entry_62 : decode cX4_entry 62 = .ok (.iload 4, 2) := by decide +kernel
theorem dX4_entry_64 : decode cX4_entry 64 = .ok (.aaload, 1) := by decide +kernel
theorem dX4_entry_65 : decode cX4_entry 65 = .ok (.astore 5, 2) := by decide +kernel
theorem dX4_entry_67 : decode cX4_entry 67 = .ok (.iload_n 3, 1) := by decide +kernel
theorem dX4_entry_68 : decode cX4_entry 68 = .ok (.ifCond .ne 13, 3) := by decide +kernel
theorem dX4_entry_71 : decode cX4_entry 71 = .ok (.aload 5, 2) := by decide +kernel
theorem dX4_entry_73 : decode cX4_entry 73 = .ok (.getfield 163, 3) := by decide +kernel
theorem dX4_entry_76 : decode cX4_entry 76 = .ok (.iload_n 2, 1) := by decide +kernel
theorem dX4_entry_77 : decode cX4_entry 77 = .ok (.iaload, 1) := by decide +kernel
theorem dX4_entry_78 : decode cX4_entry 78 = .ok (.goto 10, 3) := by decide +kernel
theorem dX4_entry_81 : decode cX4_entry 81 = .ok (.aload 5, 2) := by decide +kernel
theorem dX4_entry_83 : decode cX4_entry 83 = .ok (.getfield 150, 3) := by decide +kernel
theorem dX4_entry_86 : decode cX4_entry 86 = .ok (.iload_n 2, 1) := by decide +kernel
theorem dX4_entry_87 : decode cX4_entry 87 = .ok (.iaload, 1) := by decide +kernel
theorem dX4_entry_88 : decode cX4_entry 88 = .ok (.ireturn, 1) := by decide +kernel
theorem dX4_read_0 : decode cX4_read 0 = .ok (.aload_n 0, 1) := by decide +kernel
theorem dX4_read_1 : decode cX4_read 1 = .ok (.getfield 10, 3) := by decide +kernel
theorem dX4_read_4 : decode cX4_read 4 = .ok (.iload_n 1, 1) := by decide +kernel
theorem dX4_read_5 : decode cX4_read 5 = .ok (.invokevirtual 124, 3) := by decide +kernel
theorem dX4_read_8 : decode cX4_read 8 = .ok (.istore 4, 2) := by decide +kernel
theorem dX4_read_10 : decode cX4_read 10 = .ok (.iload 4, 2) := by decide +kernel
theorem dX4_read_12 : decode cX4_read 12 = .ok (.iconst (-1), 1) := by decide +kernel
theorem dX4_read_13 : decode cX4_read 13 = .ok (.if_icmp .eq 16, 3) := by decide +kernel
theorem dX4_read_16 : decode cX4_read 16 = .ok (.iload_n 2, 1) := by decide +kernel
theorem dX4_read_17 : decode cX4_read 17 = .ok (.ifCond .lt 12, 3) := by decide +kernel
theorem dX4_read_20 : decode cX4_read 20 = .ok (.iload_n 2, 1) := by decide +kernel
theorem dX4_read_21 : decode cX4_read 21 = .ok (.iconst 3, 1) := by decide +kernel
theorem dX4_read_22 : decode cX4_read 22 = .ok (.if_icmp .gt 7, 3) := by decide +kernel
theorem dX4_read_25 : decode cX4_read 25 = .ok (.iload_n 3, 1) := by decide +kernel
theorem dX4_read_26 : decode cX4_read 26 = .ok (.ifCond .ge 6, 3) := by decide +kernel
theorem dX4_read_29 : decode cX4_read 29 = .ok (.bipush (-2), 2) := by decide +kernel
theorem dX4_read_31 : decode cX4_read 31 = .ok (.ireturn, 1) := by decide +kernel
theorem dX4_read_32 : decode cX4_read 32 = .ok (.aload_n 0, 1) := by decide +kernel
theorem dX4_read_33 : decode cX4_read 33 = .ok (.getfield 10, 3) := by decide +kernel
theorem dX4_read_36 : decode cX4_read 36 = .ok (.getfield 89, 3) := by decide +kernel
theorem dX4_read_39 : decode cX4_read 39 = .ok (.iload 4, 2) := by decide +kernel
theorem dX4_read_41 : decode cX4_read 41 = .ok (.aaload, 1) := by decide +kernel
theorem dX4_read_42 : decode cX4_read 42 = .ok (.getfield 98, 3) := by decide +kernel
theorem dX4_read_45 : decode cX4_read 45 = .ok (.istore 5, 2) := by decide +kernel
theorem dX4_read_47 : decode cX4_read 47 = .ok (.iload_n 2, 1) := by decide +kernel
theorem dX4_read_48 : decode cX4_read 48 = .ok (.ifCond .eq 12, 3) := by decide +kernel
theorem dX4_read_51 : decode cX4_read 51 = .ok (.iload_n 2, 1) := by decide +kernel
theorem dX4_read_52 : decode cX4_read 52 = .ok (.iload 5, 2) := by decide +kernel
theorem dX4_read_54 : decode cX4_read 54 = .ok (.if_icmp .ge 6, 3) := by decide +kernel
theorem dX4_read_57 : decode cX4_read 57 = .ok (.bipush (-2), 2) := by decide +kernel
theorem dX4_read_59 : decode cX4_read 59 = .ok (.ireturn, 1) := by decide +kernel
theorem dX4_read_60 : decode cX4_read 60 = .ok (.aload_n 0, 1) := by decide +kernel
theorem dX4_read_61 : decode cX4_read 61 = .ok (.getfield 34, 3) := by decide +kernel
theorem dX4_read_64 : decode cX4_read 64 = .ok (.aload_n 0, 1) := by decide +kernel
theorem dX4_read_65 : decode cX4_read 65 = .ok (.getfield 10, 3) := by decide +kernel
theorem dX4_read_68 : decode cX4_read 68 = .ok (.invokevirtual 85, 3) := by decide +kernel
theorem dX4_read_71 : decode cX4_read 71 = .ok (.aload_n 0, 1) := by decide +kernel
theorem dX4_read_72 : decode cX4_read 72 = .ok (.getfield 34, 3) := by decide +kernel
theorem dX4_read_75 : decode cX4_read 75 = .ok (.getfield 127, 3) := by decide +kernel
theorem dX4_read_78 : decode cX4_read 78 = .ok (.iload 4, 2) := by decide +kernel
theorem dX4_read_80 : decode cX4_read 80 = .ok (.iaload, 1) := by decide +kernel
theorem dX4_read_81 : decode cX4_read 81 = .ok (.iconst (-1), 1) := by decide +kernel
theorem dX4_read_82 : decode cX4_read 82 = .ok (.if_icmp .eq 6, 3) := by decide +kernel
theorem dX4_read_85 : decode cX4_read 85 = .ok (.bipush (-3), 2) := by decide +kernel
theorem dX4_read_87 : decode cX4_read 87 = .ok (.ireturn, 1) := by decide +kernel
theorem dX4_read_88 : decode cX4_read 88 = .ok (.iload_n 2, 1) := by decide +kernel
theorem dX4_read_89 : decode cX4_read 89 = .ok (.ifCond .ne 8, 3) := by decide +kernel
theorem dX4_read_92 : decode cX4_read 92 = .ok (.iload 5, 2) := by decide +kernel
theorem dX4_read_94 : decode cX4_read 94 = .ok (.goto 4, 3) := by decide +kernel
theorem dX4_read_97 : decode cX4_read 97 = .ok (.iload_n 2, 1) := by decide +kernel
theorem dX4_read_98 : decode cX4_read 98 = .ok (.istore 6, 2) := by decide +kernel
theorem dX4_read_100 : decode cX4_read 100 = .ok (.iload_n 3, 1) := by decide +kernel
theorem dX4_read_101 : decode cX4_read 101 = .ok (.iload 6, 2) := by decide +kernel
theorem dX4_read_103 : decode cX4_read 103 = .ok (.invokestatic 57, 3) := by decide +kernel
theorem dX4_read_106 : decode cX4_read 106 = .ok (.if_icmp .lt 5, 3) := by decide +kernel
theorem dX4_read_109 : decode cX4_read 109 = .ok (.iconst (-1), 1) := by decide +kernel
theorem dX4_read_110 : decode cX4_read 110 = .ok (.ireturn, 1) := by decide +kernel
theorem dX4_read_111 : decode cX4_read 111 = .ok (.aload_n 0, 1) := by decide +kernel
theorem dX4_read_112 : decode cX4_read 112 = .ok (.iload 4, 2) := by decide +kernel
theorem dX4_read_114 : decode cX4_read 114 = .ok (.iload 6, 2) := by decide +kernel
theorem dX4_read_116 : decode cX4_read 116 = .ok (.aload_n 0, 1) := by decide +kernel
theorem dX4_read_117 : decode cX4_read 117 = .ok (.getfield 38, 3) := by decide +kernel
theorem dX4_read_120 : decode cX4_read 120 = .ok (.invokevirtual 113, 3) := by decide +kernel
theorem dX4_read_123 : decode cX4_read 123 = .ok (.aload_n 0, 1) := by decide +kernel
theorem dX4_read_124 : decode cX4_read 124 = .ok (.getfield 38, 3) := by decide +kernel
theorem dX4_read_127 : decode cX4_read 127 = .ok (.iload_n 3, 1) := by decide +kernel
theorem dX4_read_128 : decode cX4_read 128 = .ok (.iaload, 1) := by decide +kernel
theorem dX4_read_129 : decode cX4_read 129 = .ok (.ireturn, 1) := by decide +kernel
theorem dX4_cause_0 : decode cX4_cause 0 = .ok (.iload_n 1, 1) := by decide +kernel
theorem dX4_cause_1 : decode cX4_cause 1 = .ok (.ifCond .lt 27, 3) := by decide +kernel
theorem dX4_cause_4 : decode cX4_cause 4 = .ok (.iload_n 1, 1) := by decide +kernel
theorem dX4_cause_5 : decode cX4_cause 5 = .ok (.aload_n 0, 1) := by decide +kernel
theorem dX4_cause_6 : decode cX4_cause 6 = .ok (.getfield 10, 3) := by decide +kernel
theorem dX4_cause_9 : decode cX4_cause 9 = .ok (.getfield 82, 3) := by decide +kernel
theorem dX4_cause_12 : decode cX4_cause 12 = .ok (.if_icmp .ge 16, 3) := by decide +kernel
theorem dX4_cause_15 : decode cX4_cause 15 = .ok (.iload_n 2, 1) := by decide +kernel
theorem dX4_cause_16 : decode cX4_cause 16 = .ok (.ifCond .lt 12, 3) := by decide +kernel
theorem dX4_cause_19 : decode cX4_cause 19 = .ok (.iload_n 3, 1) := by decide +kernel
theorem dX4_cause_20 : decode cX4_cause 20 = .ok (.ifCond .lt 8, 3) := by decide +kernel
theorem dX4_cause_23 : decode cX4_cause 23 = .ok (.iload_n 3, 1) := by decide +kernel
theorem dX4_cause_24 : decode cX4_cause 24 = .ok (.iconst 2, 1) := by decide +kernel
theorem dX4_cause_25 : decode cX4_cause 25 = .ok (.if_icmp .lt 6, 3) := by decide +kernel
theorem dX4_cause_28 : decode cX4_cause 28 = .ok (.bipush (-2), 2) := by decide +kernel
theorem dX4_cause_30 : decode cX4_cause 30 = .ok (.ireturn, 1) := by decide +kernel
theorem dX4_cause_31 : decode cX4_cause 31 = .ok (.aload_n 0, 1) := by decide +kernel
theorem dX4_cause_32 : decode cX4_cause 32 = .ok (.getfield 34, 3) := by decide +kernel
theorem dX4_cause_35 : decode cX4_cause 35 = .ok (.aload_n 0, 1) := by decide +kernel
theorem dX4_cause_36 : decode cX4_cause 36 = .ok (.getfield 10, 3) := by decide +kernel
theorem dX4_cause_39 : decode cX4_cause 39 = .ok (.invokevirtual 85, 3) := by decide +kernel
theorem dX4_cause_42 : decode cX4_cause 42 = .ok (.aload_n 0, 1) := by decide +kernel
theorem dX4_cause_43 : decode cX4_cause 43 = .ok (.iload_n 1, 1) := by decide +kernel
theorem dX4_cause_44 : decode cX4_cause 44 = .ok (.iload_n 2, 1) := by decide +kernel
theorem dX4_cause_45 : decode cX4_cause 45 = .ok (.iload_n 3, 1) := by decide +kernel
theorem dX4_cause_46 : decode cX4_cause 46 = .ok (.invokevirtual 166, 3) := by decide +kernel
theorem dX4_cause_49 : decode cX4_cause 49 = .ok (.ireturn, 1) := by decide +kernel
theorem dX4_apart_0 : decode cX4_apart 0 = .ok (.aload_n 0, 1) := by decide +kernel
theorem dX4_apart_1 : decode cX4_apart 1 = .ok (.getfield 10, 3) := by decide +kernel
theorem dX4_apart_4 : decode cX4_apart 4 = .ok (.iload_n 1, 1) := by decide +kernel
theorem dX4_apart_5 : decode cX4_apart 5 = .ok (.invokevirtual 124, 3) := by decide +kernel
theorem dX4_apart_8 : decode cX4_apart 8 = .ok (.istore_n 3, 1) := by decide +kernel
theorem dX4_apart_9 : decode cX4_apart 9 = .ok (.aload_n 0, 1) := by decide +kernel
theorem dX4_apart_10 : decode cX4_apart 10 = .ok (.getfield 10, 3) := by decide +kernel
theorem dX4_apart_13 : decode cX4_apart 13 = .ok (.iload_n 2, 1) := by decide +kernel
theorem dX4_apart_14 : decode cX4_apart 14 = .ok (.invokevirtual 124, 3) := by decide +kernel
theorem dX4_apart_17 : decode cX4_apart 17 = .ok (.istore 4, 2) := by decide +kernel
theorem dX4_apart_19 : decode cX4_apart 19 = .ok (.iload_n 3, 1) := by decide +kernel
theorem dX4_apart_20 : decode cX4_apart 20 = .ok (.iconst (-1), 1) := by decide +kernel
theorem dX4_apart_21 : decode cX4_apart 21 = .ok (.if_icmp .eq 9, 3) := by decide +kernel
theorem dX4_apart_24 : decode cX4_apart 24 = .ok (.iload 4, 2) := by decide +kernel
theorem dX4_apart_26 : decode cX4_apart 26 = .ok (.iconst (-1), 1) := by decide +kernel
theorem dX4_apart_27 : decode cX4_apart 27 = .ok (.if_icmp .ne 6, 3) := by decide +kernel
theorem dX4_apart_30 : decode cX4_apart 30 = .ok (.bipush (-2), 2) := by decide +kernel
theorem dX4_apart_32 : decode cX4_apart 32 = .ok (.ireturn, 1) := by decide +kernel
theorem dX4_apart_33 : decode cX4_apart 33 = .ok (.aload_n 0, 1) := by decide +kernel
theorem dX4_apart_34 : decode cX4_apart 34 = .ok (.getfield 34, 3) := by decide +kernel
theorem dX4_apart_37 : decode cX4_apart 37 = .ok (.aload_n 0, 1) := by decide +kernel
theorem dX4_apart_38 : decode cX4_apart 38 = .ok (.getfield 10, 3) := by decide +kernel
theorem dX4_apart_41 : decode cX4_apart 41 = .ok (.invokevirtual 85, 3) := by decide +kernel
theorem dX4_apart_44 : decode cX4_apart 44 = .ok (.aload_n 0, 1) := by decide +kernel
theorem dX4_apart_45 : decode cX4_apart 45 = .ok (.getfield 34, 3) := by decide +kernel
theorem dX4_apart_48 : decode cX4_apart 48 = .ok (.getfield 127, 3) := by decide +kernel
theorem dX4_apart_51 : decode cX4_apart 51 = .ok (.iload_n 3, 1) := by decide +kernel
theorem dX4_apart_52 : decode cX4_apart 52 = .ok (.iaload, 1) := by decide +kernel
theorem dX4_apart_53 : decode cX4_apart 53 = .ok (.iconst (-1), 1) := by decide +kernel
theorem dX4_apart_54 : decode cX4_apart 54 = .ok (.if_icmp .ne 17, 3) := by decide +kernel
theorem dX4_apart_57 : decode cX4_apart 57 = .ok (.aload_n 0, 1) := by decide +kernel
theorem dX4_apart_58 : decode cX4_apart 58 = .ok (.getfield 34, 3) := by decide +kernel
theorem dX4_apart_61 : decode cX4_apart 61 = .ok (.getfield 127, 3) := by decide +kernel
theorem dX4_apart_64 : decode cX4_apart 64 = .ok (.iload 4, 2) := by decide +kernel
theorem dX4_apart_66 : decode cX4_apart 66 = .ok (.iaload, 1) := by decide +kernel
theorem dX4_apart_67 : decode cX4_apart 67 = .ok (.iconst (-1), 1) := by decide +kernel
theorem dX4_apart_68 : decode cX4_apart 68 = .ok (.if_icmp .eq 6, 3) := by decide +kernel
theorem dX4_apart_71 : decode cX4_apart 71 = .ok (.bipush (-3), 2) := by decide +kernel
theorem dX4_apart_73 : decode cX4_apart 73 = .ok (.ireturn, 1) := by decide +kernel
theorem dX4_apart_74 : decode cX4_apart 74 = .ok (.aload_n 0, 1) := by decide +kernel
theorem dX4_apart_75 : decode cX4_apart 75 = .ok (.getfield 10, 3) := by decide +kernel
theorem dX4_apart_78 : decode cX4_apart 78 = .ok (.getfield 89, 3) := by decide +kernel
theorem dX4_apart_81 : decode cX4_apart 81 = .ok (.iload_n 3, 1) := by decide +kernel
theorem dX4_apart_82 : decode cX4_apart 82 = .ok (.aaload, 1) := by decide +kernel
theorem dX4_apart_83 : decode cX4_apart 83 = .ok (.getfield 98, 3) := by decide +kernel
theorem dX4_apart_86 : decode cX4_apart 86 = .ok (.aload_n 0, 1) := by decide +kernel
theorem dX4_apart_87 : decode cX4_apart 87 = .ok (.getfield 10, 3) := by decide +kernel
theorem dX4_apart_90 : decode cX4_apart 90 = .ok (.getfield 89, 3) := by decide +kernel
theorem dX4_apart_93 : decode cX4_apart 93 = .ok (.iload 4, 2) := by decide +kernel
theorem dX4_apart_95 : decode cX4_apart 95 = .ok (.aaload, 1) := by decide +kernel
theorem dX4_apart_96 : decode cX4_apart 96 = .ok (.getfield 98, 3) := by decide +kernel
theorem dX4_apart_99 : decode cX4_apart 99 = .ok (.invokestatic 133, 3) := by decide +kernel
theorem dX4_apart_102 : decode cX4_apart 102 = .ok (.istore 5, 2) := by decide +kernel
theorem dX4_apart_104 : decode cX4_apart 104 = .ok (.aload_n 0, 1) := by decide +kernel
theorem dX4_apart_105 : decode cX4_apart 105 = .ok (.iload 4, 2) := by decide +kernel
theorem dX4_apart_107 : decode cX4_apart 107 = .ok (.iload 5, 2) := by decide +kernel
theorem dX4_apart_109 : decode cX4_apart 109 = .ok (.aload_n 0, 1) := by decide +kernel
theorem dX4_apart_110 : decode cX4_apart 110 = .ok (.getfield 42, 3) := by decide +kernel
theorem dX4_apart_113 : decode cX4_apart 113 = .ok (.invokevirtual 113, 3) := by decide +kernel
theorem dX4_apart_116 : decode cX4_apart 116 = .ok (.aload_n 0, 1) := by decide +kernel
theorem dX4_apart_117 : decode cX4_apart 117 = .ok (.iload_n 3, 1) := by decide +kernel
theorem dX4_apart_118 : decode cX4_apart 118 = .ok (.iload 5, 2) := by decide +kernel
theorem dX4_apart_120 : decode cX4_apart 120 = .ok (.aload_n 0, 1) := by decide +kernel
theorem dX4_apart_121 : decode cX4_apart 121 = .ok (.getfield 42, 3) := by decide +kernel
theorem dX4_apart_124 : decode cX4_apart 124 = .ok (.invokevirtual 170, 3) := by decide +kernel
theorem dX4_apart_127 : decode cX4_apart 127 = .ok (.ireturn, 1) := by decide +kernel
theorem dX4_fork_0 : decode cX4_fork 0 = .ok (.aload_n 0, 1) := by decide +kernel
theorem dX4_fork_1 : decode cX4_fork 1 = .ok (.getfield 10, 3) := by decide +kernel
theorem dX4_fork_4 : decode cX4_fork 4 = .ok (.iload_n 1, 1) := by decide +kernel
theorem dX4_fork_5 : decode cX4_fork 5 = .ok (.invokevirtual 124, 3) := by decide +kernel
theorem dX4_fork_8 : decode cX4_fork 8 = .ok (.iconst (-1), 1) := by decide +kernel
theorem dX4_fork_9 : decode cX4_fork 9 = .ok (.if_icmp .eq 15, 3) := by decide +kernel
theorem dX4_fork_12 : decode cX4_fork 12 = .ok (.aload_n 0, 1) := by decide +kernel
theorem dX4_fork_13 : decode cX4_fork 13 = .ok (.getfield 10, 3) := by decide +kernel
theorem dX4_fork_16 : decode cX4_fork 16 = .ok (.iload_n 2, 1) := by decide +kernel
theorem dX4_fork_17 : decode cX4_fork 17 = .ok (.invokevirtual 124, 3) := by decide +kernel
theorem dX4_fork_20 : decode cX4_fork 20 = .ok (.iconst (-1), 1) := by decide +kernel
theorem dX4_fork_21 : decode cX4_fork 21 = .ok (.if_icmp .ne 6, 3) := by decide +kernel
theorem dX4_fork_24 : decode cX4_fork 24 = .ok (.bipush (-2), 2) := by decide +kernel
theorem dX4_fork_26 : decode cX4_fork 26 = .ok (.ireturn, 1) := by decide +kernel
theorem dX4_fork_27 : decode cX4_fork 27 = .ok (.iload_n 1, 1) := by decide +kernel
theorem dX4_fork_28 : decode cX4_fork 28 = .ok (.istore_n 3, 1) := by decide +kernel
theorem dX4_fork_29 : decode cX4_fork 29 = .ok (.iload_n 2, 1) := by decide +kernel
theorem dX4_fork_30 : decode cX4_fork 30 = .ok (.istore 4, 2) := by decide +kernel
theorem dX4_fork_32 : decode cX4_fork 32 = .ok (.iconst 0, 1) := by decide +kernel
theorem dX4_fork_33 : decode cX4_fork 33 = .ok (.istore 5, 2) := by decide +kernel
theorem dX4_fork_35 : decode cX4_fork 35 = .ok (.iload 5, 2) := by decide +kernel
theorem dX4_fork_37 : decode cX4_fork 37 = .ok (.sipush 198, 3) := by decide +kernel
theorem dX4_fork_40 : decode cX4_fork 40 = .ok (.if_icmp .ge 55, 3) := by decide +kernel
theorem dX4_fork_43 : decode cX4_fork 43 = .ok (.iload_n 3, 1) := by decide +kernel
theorem dX4_fork_44 : decode cX4_fork 44 = .ok (.iload 4, 2) := by decide +kernel
theorem dX4_fork_46 : decode cX4_fork 46 = .ok (.if_icmp .eq 49, 3) := by decide +kernel
theorem dX4_fork_49 : decode cX4_fork 49 = .ok (.iload_n 3, 1) := by decide +kernel
theorem dX4_fork_50 : decode cX4_fork 50 = .ok (.iconst (-1), 1) := by decide +kernel
theorem dX4_fork_51 : decode cX4_fork 51 = .ok (.if_icmp .eq 44, 3) := by decide +kernel
theorem dX4_fork_54 : decode cX4_fork 54 = .ok (.iload 4, 2) := by decide +kernel
theorem dX4_fork_56 : decode cX4_fork 56 = .ok (.iconst (-1), 1) := by decide +kernel
theorem dX4_fork_57 : decode cX4_fork 57 = .ok (.if_icmp .eq 38, 3) := by decide +kernel
theorem dX4_fork_60 : decode cX4_fork 60 = .ok (.iload_n 3, 1) := by decide +kernel
theorem dX4_fork_61 : decode cX4_fork 61 = .ok (.iload 4, 2) := by decide +kernel
theorem dX4_fork_63 : decode cX4_fork 63 = .ok (.if_icmp .le 15, 3) := by decide +kernel
theorem dX4_fork_66 : decode cX4_fork 66 = .ok (.aload_n 0, 1) := by decide +kernel
theorem dX4_fork_67 : decode cX4_fork 67 = .ok (.getfield 10, 3) := by decide +kernel
theorem dX4_fork_70 : decode cX4_fork 70 = .ok (.iload_n 3, 1) := by decide +kernel
theorem dX4_fork_71 : decode cX4_fork 71 = .ok (.invokevirtual 174, 3) := by decide +kernel
theorem dX4_fork_74 : decode cX4_fork 74 = .ok (.istore_n 3, 1) := by decide +kernel
theorem dX4_fork_75 : decode cX4_fork 75 = .ok (.goto 14, 3) := by decide +kernel
theorem dX4_fork_78 : decode cX4_fork 78 = .ok (.aload_n 0, 1) := by decide +kernel
theorem dX4_fork_79 : decode cX4_fork 79 = .ok (.getfield 10, 3) := by decide +kernel
theorem dX4_fork_82 : decode cX4_fork 82 = .ok (.iload 4, 2) := by decide +kernel
theorem dX4_fork_84 : decode cX4_fork 84 = .ok (.invokevirtual 174, 3) := by decide +kernel
theorem dX4_fork_87 : decode cX4_fork 87 = .ok (.istore 4, 2) := by decide +kernel
theorem dX4_fork_89 : decode cX4_fork 89 = .ok (.iinc 5 1, 3) := by decide +kernel
theorem dX4_fork_92 : decode cX4_fork 92 = .ok (.goto (-57), 3) := by decide +kernel
theorem dX4_fork_95 : decode cX4_fork 95 = .ok (.iload_n 3, 1) := by decide +kernel
theorem dX4_fork_96 : decode cX4_fork 96 = .ok (.iload 4, 2) := by decide +kernel
theorem dX4_fork_98 : decode cX4_fork 98 = .ok (.if_icmp .ne 7, 3) := by decide +kernel
theorem dX4_fork_101 : decode cX4_fork 101 = .ok (.iload_n 3, 1) := by decide +kernel
theorem dX4_fork_102 : decode cX4_fork 102 = .ok (.goto 4, 3) := by decide +kernel
theorem dX4_fork_105 : decode cX4_fork 105 = .ok (.iconst (-1), 1) := by decide +kernel
theorem dX4_fork_106 : decode cX4_fork 106 = .ok (.ireturn, 1) := by decide +kernel
theorem dX4_nearest_0 : decode cX4_nearest 0 = .ok (.aload_n 0, 1) := by decide +kernel
theorem dX4_nearest_1 : decode cX4_nearest 1 = .ok (.getfield 34, 3) := by decide +kernel
theorem dX4_nearest_4 : decode cX4_nearest 4 = .ok (.aload_n 0, 1) := by decide +kernel
theorem dX4_nearest_5 : decode cX4_nearest 5 = .ok (.getfield 10, 3) := by decide +kernel
theorem dX4_nearest_8 : decode cX4_nearest 8 = .ok (.invokevirtual 85, 3) := by decide +kernel
theorem dX4_nearest_11 : decode cX4_nearest 11 = .ok (.aload_n 0, 1) := by decide +kernel
theorem dX4_nearest_12 : decode cX4_nearest 12 = .ok (.invokevirtual 177, 3) := by decide +kernel
theorem dX4_nearest_15 : decode cX4_nearest 15 = .ok (.ireturn, 1) := by decide +kernel
theorem dX4_count_0 : decode cX4_count 0 = .ok (.iload_n 1, 1) := by decide +kernel
theorem dX4_count_1 : decode cX4_count 1 = .ok (.ifCond .lt 9, 3) := by decide +kernel
theorem dX4_count_4 : decode cX4_count 4 = .ok (.iload_n 1, 1) := by decide +kernel
theorem dX4_count_5 : decode cX4_count 5 = .ok (.bipush 13, 2) := by decide +kernel
theorem dX4_count_7 : decode cX4_count 7 = .ok (.if_icmp .lt 6, 3) := by decide +kernel
theorem dX4_count_10 : decode cX4_count 10 = .ok (.bipush (-2), 2) := by decide +kernel
theorem dX4_count_12 : decode cX4_count 12 = .ok (.ireturn, 1) := by decide +kernel
theorem dX4_count_13 : decode cX4_count 13 = .ok (.aload_n 0, 1) := by decide +kernel
theorem dX4_count_14 : decode cX4_count 14 = .ok (.getfield 34, 3) := by decide +kernel
theorem dX4_count_17 : decode cX4_count 17 = .ok (.aload_n 0, 1) := by decide +kernel
theorem dX4_count_18 : decode cX4_count 18 = .ok (.getfield 10, 3) := by decide +kernel
theorem dX4_count_21 : decode cX4_count 21 = .ok (.invokevirtual 85, 3) := by decide +kernel
theorem dX4_count_24 : decode cX4_count 24 = .ok (.aload_n 0, 1) := by decide +kernel
theorem dX4_count_25 : decode cX4_count 25 = .ok (.iload_n 1, 1) := by decide +kernel
theorem dX4_count_26 : decode cX4_count 26 = .ok (.invokevirtual 180, 3) := by decide +kernel
theorem dX4_count_29 : decode cX4_count 29 = .ok (.ireturn, 1) := by decide +kernel
theorem dX4_digest_0 : decode cX4_digest 0 = .ok (.aload_n 0, 1) := by decide +kernel
theorem dX4_digest_1 : decode cX4_digest 1 = .ok (.getfield 34, 3) := by decide +kernel
theorem dX4_digest_4 : decode cX4_digest 4 = .ok (.aload_n 0, 1) := by decide +kernel
theorem dX4_digest_5 : decode cX4_digest 5 = .ok (.getfield 10, 3) := by decide +kernel
theorem dX4_digest_8 : decode cX4_digest 8 = .ok (.invokevirtual 85, 3) := by decide +kernel
theorem dX4_digest_11 : decode cX4_digest 11 = .ok (.ldc2_w 183, 3) := by decide +kernel
theorem dX4_digest_14 : decode cX4_digest 14 = .ok (.lstore_n 1, 1) := by decide +kernel
theorem dX4_digest_15 : decode cX4_digest 15 = .ok (.iconst 0, 1) := by decide +kernel
theorem dX4_digest_16 : decode cX4_digest 16 = .ok (.istore_n 3, 1) := by decide +kernel
theorem dX4_digest_17 : decode cX4_digest 17 = .ok (.iload_n 3, 1) := by decide +kernel
theorem dX4_digest_18 : decode cX4_digest 18 = .ok (.bipush 13, 2) := by decide +kernel
theorem dX4_digest_20 : decode cX4_digest 20 = .ok (.if_icmp .ge 22, 3) := by decide +kernel
theorem dX4_digest_23 : decode cX4_digest 23 = .ok (.ldc2_w 185, 3) := by decide +kernel
theorem dX4_digest_26 : decode cX4_digest 26 = .ok (.lload_n 1, 1) := by decide +kernel
theorem dX4_digest_27 : decode cX4_digest 27 = .ok (.lmul, 1) := by decide +kernel
theorem dX4_digest_28 : decode cX4_digest 28 = .ok (.aload_n 0, 1) := by decide +kernel
theorem dX4_digest_29 : decode cX4_digest 29 = .ok (.iload_n 3, 1) := by decide +kernel
theorem dX4_digest_30 : decode cX4_digest 30 = .ok (.invokevirtual 180, 3) := by decide +kernel
theorem dX4_digest_33 : decode cX4_digest 33 = .ok (.i2l, 1) := by decide +kernel
theorem dX4_digest_34 : decode cX4_digest 34 = .ok (.ladd, 1) := by decide +kernel
theorem dX4_digest_35 : decode cX4_digest 35 = .ok (.lstore_n 1, 1) := by decide +kernel
theorem dX4_digest_36 : decode cX4_digest 36 = .ok (.iinc 3 1, 3) := by decide +kernel
theorem dX4_digest_39 : decode cX4_digest 39 = .ok (.goto (-22), 3) := by decide +kernel
theorem dX4_digest_42 : decode cX4_digest 42 = .ok (.iconst 0, 1) := by decide +kernel
theorem dX4_digest_43 : decode cX4_digest 43 = .ok (.istore_n 3, 1) := by decide +kernel
theorem dX4_digest_44 : decode cX4_digest 44 = .ok (.iload_n 3, 1) := by decide +kernel
theorem dX4_digest_45 : decode cX4_digest 45 = .ok (.aload_n 0, 1) := by decide +kernel
theorem dX4_digest_46 : decode cX4_digest 46 = .ok (.getfield 10, 3) := by decide +kernel
theorem dX4_digest_49 : decode cX4_digest 49 = .ok (.getfield 54, 3) := by decide +kernel
theorem dX4_digest_52 : decode cX4_digest 52 = .ok (.invokestatic 57, 3) := by decide +kernel
theorem dX4_digest_55 : decode cX4_digest 55 = .ok (.if_icmp .ge 26, 3) := by decide +kernel
theorem dX4_digest_58 : decode cX4_digest 58 = .ok (.ldc2_w 185, 3) := by decide +kernel
theorem dX4_digest_61 : decode cX4_digest 61 = .ok (.lload_n 1, 1) := by decide +kernel
theorem dX4_digest_62 : decode cX4_digest 62 = .ok (.lmul, 1) := by decide +kernel
theorem dX4_digest_63 : decode cX4_digest 63 = .ok (.aload_n 0, 1) := by decide +kernel
theorem dX4_digest_64 : decode cX4_digest 64 = .ok (.getfield 10, 3) := by decide +kernel
theorem dX4_digest_67 : decode cX4_digest 67 = .ok (.getfield 51, 3) := by decide +kernel
theorem dX4_digest_70 : decode cX4_digest 70 = .ok (.iload_n 3, 1) := by decide +kernel
theorem dX4_digest_71 : decode cX4_digest 71 = .ok (.iaload, 1) := by decide +kernel
theorem dX4_digest_72 : decode cX4_digest 72 = .ok (.i2l, 1) := by decide +kernel
theorem dX4_digest_73 : decode cX4_digest 73 = .ok (.ladd, 1) := by decide +kernel
theorem dX4_digest_74 : decode cX4_digest 74 = .ok (.lstore_n 1, 1) := by decide +kernel
theorem dX4_digest_75 : decode cX4_digest 75 = .ok (.iinc 3 1, 3) := by decide +kernel
theorem dX4_digest_78 : decode cX4_digest 78 = .ok (.goto (-34), 3) := by decide +kernel
theorem dX4_digest_81 : decode cX4_digest 81 = .ok (.iconst 0, 1) := by decide +kernel
theorem dX4_digest_82 : decode cX4_digest 82 = .ok (.istore_n 3, 1) := by decide +kernel
theorem dX4_digest_83 : decode cX4_digest 83 = .ok (.iload_n 3, 1) := by decide +kernel
theorem dX4_digest_84 : decode cX4_digest 84 = .ok (.aload_n 0, 1) := by decide +kernel
theorem dX4_digest_85 : decode cX4_digest 85 = .ok (.getfield 10, 3) := by decide +kernel
theorem dX4_digest_88 : decode cX4_digest 88 = .ok (.getfield 79, 3) := by decide +kernel
theorem dX4_digest_91 : decode cX4_digest 91 = .ok (.if_icmp .ge 16, 3) := by decide +kernel
theorem dX4_digest_94 : decode cX4_digest 94 = .ok (.aload_n 0, 1) := by decide +kernel
theorem dX4_digest_95 : decode cX4_digest 95 = .ok (.lload_n 1, 1) := by decide +kernel
theorem dX4_digest_96 : decode cX4_digest 96 = .ok (.iload_n 3, 1) := by decide +kernel
theorem dX4_digest_97 : decode cX4_digest 97 = .ok (.invokevirtual 187, 3) := by decide +kernel
theorem dX4_digest_100 : decode cX4_digest 100 = .ok (.lstore_n 1, 1) := by decide +kernel
theorem dX4_digest_101 : decode cX4_digest 101 = .ok (.iinc 3 1, 3) := by decide +kernel
theorem dX4_digest_104 : decode cX4_digest 104 = .ok (.goto (-21), 3) := by decide +kernel
theorem dX4_digest_107 : decode cX4_digest 107 = .ok (.ldc2_w 185, 3) := by decide +kernel
theorem dX4_digest_110 : decode cX4_digest 110 = .ok (.lload_n 1, 1) := by decide +kernel
theorem dX4_digest_111 : decode cX4_digest 111 = .ok (.lmul, 1) := by decide +kernel
theorem dX4_digest_112 : decode cX4_digest 112 = .ok (.aload_n 0, 1) := by decide +kernel
theorem dX4_digest_113 : decode cX4_digest 113 = .ok (.invokevirtual 177, 3) := by decide +kernel
theorem dX4_digest_116 : decode cX4_digest 116 = .ok (.i2l, 1) := by decide +kernel
theorem dX4_digest_117 : decode cX4_digest 117 = .ok (.ladd, 1) := by decide +kernel
theorem dX4_digest_118 : decode cX4_digest 118 = .ok (.lstore_n 1, 1) := by decide +kernel
theorem dX4_digest_119 : decode cX4_digest 119 = .ok (.iconst 0, 1) := by decide +kernel
theorem dX4_digest_120 : decode cX4_digest 120 = .ok (.istore_n 3, 1) := by decide +kernel
theorem dX4_digest_121 : decode cX4_digest 121 = .ok (.iload_n 3, 1) := by decide +kernel
theorem dX4_digest_122 : decode cX4_digest 122 = .ok (.aload_n 0, 1) := by decide +kernel
theorem dX4_digest_123 : decode cX4_digest 123 = .ok (.getfield 27, 3) := by decide +kernel
theorem dX4_digest_126 : decode cX4_digest 126 = .ok (.getfield 45, 3) := by decide +kernel
theorem dX4_digest_129 : decode cX4_digest 129 = .ok (.if_icmp .ge 26, 3) := by decide +kernel
theorem dX4_digest_132 : decode cX4_digest 132 = .ok (.ldc2_w 185, 3) := by decide +kernel
theorem dX4_digest_135 : decode cX4_digest 135 = .ok (.lload_n 1, 1) := by decide +kernel
theorem dX4_digest_136 : decode cX4_digest 136 = .ok (.lmul, 1) := by decide +kernel
theorem dX4_digest_137 : decode cX4_digest 137 = .ok (.aload_n 0, 1) := by decide +kernel
theorem dX4_digest_138 : decode cX4_digest 138 = .ok (.getfield 27, 3) := by decide +kernel
theorem dX4_digest_141 : decode cX4_digest 141 = .ok (.getfield 48, 3) := by decide +kernel
theorem dX4_digest_144 : decode cX4_digest 144 = .ok (.iload_n 3, 1) := by decide +kernel
theorem dX4_digest_145 : decode cX4_digest 145 = .ok (.iaload, 1) := by decide +kernel
theorem dX4_digest_146 : decode cX4_digest 146 = .ok (.i2l, 1) := by decide +kernel
theorem dX4_digest_147 : decode cX4_digest 147 = .ok (.ladd, 1) := by decide +kernel
theorem dX4_digest_148 : decode cX4_digest 148 = .ok (.lstore_n 1, 1) := by decide +kernel
theorem dX4_digest_149 : decode cX4_digest 149 = .ok (.iinc 3 1, 3) := by decide +kernel
theorem dX4_digest_152 : decode cX4_digest 152 = .ok (.goto (-31), 3) := by decide +kernel
theorem dX4_digest_155 : decode cX4_digest 155 = .ok (.lload_n 1, 1) := by decide +kernel
theorem dX4_digest_156 : decode cX4_digest 156 = .ok (.lreturn, 1) := by decide +kernel
theorem dX4_remember_0 : decode cX4_remember 0 = .ok (.aload_n 0, 1) := by decide +kernel
theorem dX4_remember_1 : decode cX4_remember 1 = .ok (.getfield 20, 3) := by decide +kernel
theorem dX4_remember_4 : decode cX4_remember 4 = .ok (.bipush 6, 2) := by decide +kernel
theorem dX4_remember_6 : decode cX4_remember 6 = .ok (.if_icmp .lt 50, 3) := by decide +kernel
theorem dX4_remember_9 : decode cX4_remember 9 = .ok (.aload_n 0, 1) := by decide +kernel
theorem dX4_remember_10 : decode cX4_remember 10 = .ok (.getfield 16, 3) := by decide +kernel
theorem dX4_remember_13 : decode cX4_remember 13 = .ok (.iconst 0, 1) := by decide +kernel
theorem dX4_remember_14 : decode cX4_remember 14 = .ok (.aaload, 1) := by decide +kernel
theorem dX4_remember_15 : decode cX4_remember 15 = .ok (.astore_n 1, 1) := by decide +kernel
theorem dX4_remember_16 : decode cX4_remember 16 = .ok (.iconst 1, 1) := by decide +kernel
theorem dX4_remember_17 : decode cX4_remember 17 = .ok (.istore_n 2, 1) := by decide +kernel
theorem dX4_remember_18 : decode cX4_remember 18 = .ok (.iload_n 2, 1) := by decide +kernel
theorem dX4_remember_19 : decode cX4_remember 19 = .ok (.bipush 6, 2) := by decide +kernel
theorem dX4_remember_21 : decode cX4_remember 21 = .ok (.if_icmp .ge 23, 3) := by decide +kernel
theorem dX4_remember_24 : decode cX4_remember 24 = .ok (.aload_n 0, 1) := by decide +kernel
theorem dX4_remember_25 : decode cX4_remember 25 = .ok (.getfield 16, 3) := by decide +kernel
theorem dX4_remember_28 : decode cX4_remember 28 = .ok (.iload_n 2, 1) := by decide +kernel
theorem dX4_remember_29 : decode cX4_remember 29 = .ok (.iconst 1, 1) := by decide +kernel
theorem dX4_remember_30 : decode cX4_remember 30 = .ok (.isub, 1) := by decide +kernel
theorem dX4_remember_31 : decode cX4_remember 31 = .ok (.aload_n 0, 1) := by decide +kernel
theorem dX4_remember_32 : decode cX4_remember 32 = .ok (.getfield 16, 3) := by decide +kernel
theorem dX4_remember_35 : decode cX4_remember 35 = .ok (.iload_n 2, 1) := by decide +kernel
theorem dX4_remember_36 : decode cX4_remember 36 = .ok (.aaload, 1) := by decide +kernel
theorem dX4_remember_37 : decode cX4_remember 37 = .ok (.aastore, 1) := by decide +kernel
theorem dX4_remember_38 : decode cX4_remember 38 = .ok (.iinc 2 1, 3) := by decide +kernel
theorem dX4_remember_41 : decode cX4_remember 41 = .ok (.goto (-23), 3) := by decide +kernel
theorem dX4_remember_44 : decode cX4_remember 44 = .ok (.aload_n 0, 1) := by decide +kernel
theorem dX4_remember_45 : decode cX4_remember 45 = .ok (.getfield 16, 3) := by decide +kernel
theorem dX4_remember_48 : decode cX4_remember 48 = .ok (.iconst 5, 1) := by decide +kernel
theorem dX4_remember_49 : decode cX4_remember 49 = .ok (.aload_n 1, 1) := by decide +kernel
theorem dX4_remember_50 : decode cX4_remember 50 = .ok (.aastore, 1) := by decide +kernel
theorem dX4_remember_51 : decode cX4_remember 51 = .ok (.aload_n 0, 1) := by decide +kernel
theorem dX4_remember_52 : decode cX4_remember 52 = .ok (.iconst 5, 1) := by decide +kernel
theorem dX4_remember_53 : decode cX4_remember 53 = .ok (.putfield 20, 3) := by decide +kernel
theorem dX4_remember_56 : decode cX4_remember 56 = .ok (.aload_n 0, 1) := by decide +kernel
theorem dX4_remember_57 : decode cX4_remember 57 = .ok (.getfield 16, 3) := by decide +kernel
theorem dX4_remember_60 : decode cX4_remember 60 = .ok (.aload_n 0, 1) := by decide +kernel
theorem dX4_remember_61 : decode cX4_remember 61 = .ok (.getfield 20, 3) := by decide +kernel
theorem dX4_remember_64 : decode cX4_remember 64 = .ok (.aaload, 1) := by decide +kernel
theorem dX4_remember_65 : decode cX4_remember 65 = .ok (.aload_n 0, 1) := by decide +kernel
theorem dX4_remember_66 : decode cX4_remember 66 = .ok (.getfield 10, 3) := by decide +kernel
theorem dX4_remember_69 : decode cX4_remember 69 = .ok (.invokevirtual 157, 3) := by decide +kernel
theorem dX4_remember_72 : decode cX4_remember 72 = .ok (.aload_n 0, 1) := by decide +kernel
theorem dX4_remember_73 : decode cX4_remember 73 = .ok (.dup, 1) := by decide +kernel
theorem dX4_remember_74 : decode cX4_remember 74 = .ok (.getfield 20, 3) := by decide +kernel
theorem dX4_remember_77 : decode cX4_remember 77 = .ok (.iconst 1, 1) := by decide +kernel
theorem dX4_remember_78 : decode cX4_remember 78 = .ok (.iadd, 1) := by decide +kernel
theorem dX4_remember_79 : decode cX4_remember 79 = .ok (.putfield 20, 3) := by decide +kernel
theorem dX4_remember_82 : decode cX4_remember 82 = .ok (.return_, 1) := by decide +kernel
theorem dX4_baseForGame_0 : decode cX4_baseForGame 0 = .ok (.aload_n 0, 1) := by decide +kernel
theorem dX4_baseForGame_1 : decode cX4_baseForGame 1 = .ok (.getfield 10, 3) := by decide +kernel
theorem dX4_baseForGame_4 : decode cX4_baseForGame 4 = .ok (.aload_n 0, 1) := by decide +kernel
theorem dX4_baseForGame_5 : decode cX4_baseForGame 5 = .ok (.getfield 10, 3) := by decide +kernel
theorem dX4_baseForGame_8 : decode cX4_baseForGame 8 = .ok (.getfield 117, 3) := by decide +kernel
theorem dX4_baseForGame_11 : decode cX4_baseForGame 11 = .ok (.invokevirtual 124, 3) := by decide +kernel
theorem dX4_baseForGame_14 : decode cX4_baseForGame 14 = .ok (.istore_n 1, 1) := by decide +kernel
theorem dX4_baseForGame_15 : decode cX4_baseForGame 15 = .ok (.iload_n 1, 1) := by decide +kernel
theorem dX4_baseForGame_16 : decode cX4_baseForGame 16 = .ok (.iconst (-1), 1) := by decide +kernel
theorem dX4_baseForGame_17 : decode cX4_baseForGame 17 = .ok (.if_icmp .eq 18, 3) := by decide +kernel
theorem dX4_baseForGame_20 : decode cX4_baseForGame 20 = .ok (.aload_n 0, 1) := by decide +kernel
theorem dX4_baseForGame_21 : decode cX4_baseForGame 21 = .ok (.iload_n 1, 1) := by decide +kernel
theorem dX4_baseForGame_22 : decode cX4_baseForGame 22 = .ok (.aload_n 0, 1) := by decide +kernel
theorem dX4_baseForGame_23 : decode cX4_baseForGame 23 = .ok (.getfield 10, 3) := by decide +kernel
theorem dX4_baseForGame_26 : decode cX4_baseForGame 26 = .ok (.getfield 54, 3) := by decide +kernel
theorem dX4_baseForGame_29 : decode cX4_baseForGame 29 = .ok (.invokevirtual 191, 3) := by decide +kernel
theorem dX4_baseForGame_32 : decode cX4_baseForGame 32 = .ok (.ifCond .ne 5, 3) := by decide +kernel
theorem dX4_baseForGame_35 : decode cX4_baseForGame 35 = .ok (.iconst (-1), 1) := by decide +kernel
theorem dX4_baseForGame_36 : decode cX4_baseForGame 36 = .ok (.ireturn, 1) := by decide +kernel
theorem dX4_baseForGame_37 : decode cX4_baseForGame 37 = .ok (.aload_n 0, 1) := by decide +kernel
theorem dX4_baseForGame_38 : decode cX4_baseForGame 38 = .ok (.iload_n 1, 1) := by decide +kernel
theorem dX4_baseForGame_39 : decode cX4_baseForGame 39 = .ok (.aload_n 0, 1) := by decide +kernel
theorem dX4_baseForGame_40 : decode cX4_baseForGame 40 = .ok (.getfield 10, 3) := by decide +kernel
theorem dX4_baseForGame_43 : decode cX4_baseForGame 43 = .ok (.getfield 54, 3) := by decide +kernel
theorem dX4_baseForGame_46 : decode cX4_baseForGame 46 = .ok (.aload_n 0, 1) := by decide +kernel
theorem dX4_baseForGame_47 : decode cX4_baseForGame 47 = .ok (.getfield 10, 3) := by decide +kernel
theorem dX4_baseForGame_50 : decode cX4_baseForGame 50 = .ok (.getfield 51, 3) := by decide +kernel
theorem dX4_baseForGame_53 : decode cX4_baseForGame 53 = .ok (.invokevirtual 170, 3) := by decide +kernel
theorem dX4_baseForGame_56 : decode cX4_baseForGame 56 = .ok (.bipush 6, 2) := by decide +kernel
theorem dX4_baseForGame_58 : decode cX4_baseForGame 58 = .ok (.if_icmp .gt 7, 3) := by decide +kernel
theorem dX4_baseForGame_61 : decode cX4_baseForGame 61 = .ok (.iload_n 1, 1) := by decide +kernel
theorem dX4_baseForGame_62 : decode cX4_baseForGame 62 = .ok (.goto 4, 3) := by decide +kernel
theorem dX4_baseForGame_65 : decode cX4_baseForGame 65 = .ok (.iconst (-1), 1) := by decide +kernel
theorem dX4_baseForGame_66 : decode cX4_baseForGame 66 = .ok (.ireturn, 1) := by decide +kernel
theorem dX4_canBeBase_0 : decode cX4_canBeBase 0 = .ok (.aload_n 0, 1) := by decide +kernel
theorem dX4_canBeBase_1 : decode cX4_canBeBase 1 = .ok (.getfield 10, 3) := by decide +kernel
theorem dX4_canBeBase_4 : decode cX4_canBeBase 4 = .ok (.getfield 89, 3) := by decide +kernel
theorem dX4_canBeBase_7 : decode cX4_canBeBase 7 = .ok (.iload_n 1, 1) := by decide +kernel
theorem dX4_canBeBase_8 : decode cX4_canBeBase 8 = .ok (.aaload, 1) := by decide +kernel
theorem dX4_canBeBase_9 : decode cX4_canBeBase 9 = .ok (.astore_n 3, 1) := by decide +kernel
theorem dX4_canBeBase_10 : decode cX4_canBeBase 10 = .ok (.aload_n 0, 1) := by decide +kernel
theorem dX4_canBeBase_11 : decode cX4_canBeBase 11 = .ok (.getfield 34, 3) := by decide +kernel
theorem dX4_canBeBase_14 : decode cX4_canBeBase 14 = .ok (.getfield 127, 3) := by decide +kernel
theorem dX4_canBeBase_17 : decode cX4_canBeBase 17 = .ok (.iload_n 1, 1) := by decide +kernel
theorem dX4_canBeBase_18 : decode cX4_canBeBase 18 = .ok (.iaload, 1) := by decide +kernel
theorem dX4_canBeBase_19 : decode cX4_canBeBase 19 = .ok (.iconst (-1), 1) := by decide +kernel
theorem dX4_canBeBase_20 : decode cX4_canBeBase 20 = .ok (.if_icmp .ne 38, 3) := by decide +kernel
theorem dX4_canBeBase_23 : decode cX4_canBeBase 23 = .ok (.aload_n 3, 1) := by decide +kernel
theorem dX4_canBeBase_24 : decode cX4_canBeBase 24 = .ok (.getfield 98, 3) := by decide +kernel
theorem dX4_canBeBase_27 : decode cX4_canBeBase 27 = .ok (.iload_n 2, 1) := by decide +kernel
theorem dX4_canBeBase_28 : decode cX4_canBeBase 28 = .ok (.if_icmp .gt 30, 3) := by decide +kernel
theorem dX4_canBeBase_31 : decode cX4_canBeBase 31 = .ok (.aload_n 0, 1) := by decide +kernel
theorem dX4_canBeBase_32 : decode cX4_canBeBase 32 = .ok (.getfield 10, 3) := by decide +kernel
theorem dX4_canBeBase_35 : decode cX4_canBeBase 35 = .ok (.aload_n 3, 1) := by decide +kernel
theorem dX4_canBeBase_36 : decode cX4_canBeBase 36 = .ok (.getfield 93, 3) := by decide +kernel
theorem dX4_canBeBase_39 : decode cX4_canBeBase 39 = .ok (.invokevirtual 195, 3) := by decide +kernel
theorem dX4_canBeBase_42 : decode cX4_canBeBase 42 = .ok (.aload_n 0, 1) := by decide +kernel
theorem dX4_canBeBase_43 : decode cX4_canBeBase 43 = .ok (.getfield 10, 3) := by decide +kernel
theorem dX4_canBeBase_46 : decode cX4_canBeBase 46 = .ok (.getfield 130, 3) := by decide +kernel
theorem dX4_canBeBase_49 : decode cX4_canBeBase 49 = .ok (.iconst 0, 1) := by decide +kernel
theorem dX4_canBeBase_50 : decode cX4_canBeBase 50 = .ok (.iaload, 1) := by decide +kernel
theorem dX4_canBeBase_51 : decode cX4_canBeBase 51 = .ok (.if_icmp .ge 7, 3) := by decide +kernel
theorem dX4_canBeBase_54 : decode cX4_canBeBase 54 = .ok (.iconst 1, 1) := by decide +kernel
theorem dX4_canBeBase_55 : decode cX4_canBeBase 55 = .ok (.goto 4, 3) := by decide +kernel
theorem dX4_canBeBase_58 : decode cX4_canBeBase 58 = .ok (.iconst 0, 1) := by decide +kernel
theorem dX4_canBeBase_59 : decode cX4_canBeBase 59 = .ok (.ireturn, 1) := by decide +kernel
theorem dX4_mendFollowers_0 : decode cX4_mendFollowers 0 = .ok (.iconst 0, 1) := by decide +kernel
theorem dX4_mendFollowers_1 : decode cX4_mendFollowers 1 = .ok (.istore_n 2, 1) := by decide +kernel
theorem dX4_mendFollowers_2 : decode cX4_mendFollowers 2 = .ok (.iload_n 2, 1) := by decide +kernel
theorem dX4_mendFollowers_3 : decode cX4_mendFollowers 3 = .ok (.aload_n 0, 1) := by decide +kernel
theorem dX4_mendFollowers_4 : decode cX4_mendFollowers 4 = .ok (.getfield 10, 3) := by decide +kernel
theorem dX4_mendFollowers_7 : decode cX4_mendFollowers 7 = .ok (.getfield 79, 3) := by decide +kernel
theorem dX4_mendFollowers_10 : decode cX4_mendFollowers 10 = .ok (.if_icmp .ge 53, 3) := by decide +kernel
theorem dX4_mendFollowers_13 : decode cX4_mendFollowers 13 = .ok (.aload_n 0, 1) := by decide +kernel
theorem dX4_mendFollowers_14 : decode cX4_mendFollowers 14 = .ok (.getfield 10, 3) := by decide +kernel
theorem dX4_mendFollowers_17 : decode cX4_mendFollowers 17 = .ok (.getfield 89, 3) := by decide +kernel
theorem dX4_mendFollowers_20 : decode cX4_mendFollowers 20 = .ok (.iload_n 2, 1) := by decide +kernel
theorem dX4_mendFollowers_21 : decode cX4_mendFollowers 21 = .ok (.aaload, 1) := by decide +kernel
theorem dX4_mendFollowers_22 : decode cX4_mendFollowers 22 = .ok (.astore_n 3, 1) := by decide +kernel
theorem dX4_mendFollowers_23 : decode cX4_mendFollowers 23 = .ok (.aload_n 3, 1) := by decide +kernel
theorem dX4_mendFollowers_24 : decode cX4_mendFollowers 24 = .ok (.getfield 198, 3) := by decide +kernel
theorem dX4_mendFollowers_27 : decode cX4_mendFollowers 27 = .ok (.iload_n 1, 1) := by decide +kernel
theorem dX4_mendFollowers_28 : decode cX4_mendFollowers 28 = .ok (.if_icmp .ne 29, 3) := by decide +kernel
theorem dX4_mendFollowers_31 : decode cX4_mendFollowers 31 = .ok (.aload_n 0, 1) := by decide +kernel
theorem dX4_mendFollowers_32 : decode cX4_mendFollowers 32 = .ok (.getfield 34, 3) := by decide +kernel
theorem dX4_mendFollowers_35 : decode cX4_mendFollowers 35 = .ok (.getfield 127, 3) := by decide +kernel
theorem dX4_mendFollowers_38 : decode cX4_mendFollowers 38 = .ok (.iload_n 2, 1) := by decide +kernel
theorem dX4_mendFollowers_39 : decode cX4_mendFollowers 39 = .ok (.iaload, 1) := by decide +kernel
theorem dX4_mendFollowers_40 : decode cX4_mendFollowers 40 = .ok (.iconst (-1), 1) := by decide +kernel
theorem dX4_mendFollowers_41 : decode cX4_mendFollowers 41 = .ok (.if_icmp .ne 16, 3) := by decide +kernel
theorem dX4_mendFollowers_44 : decode cX4_mendFollowers 44 = .ok (.aload_n 3, 1) := by decide +kernel
theorem dX4_mendFollowers_45 : decode cX4_mendFollowers 45 = .ok (.aload_n 0, 1) := by decide +kernel
theorem dX4_mendFollowers_46 : decode cX4_mendFollowers 46 = .ok (.getfield 34, 3) := by decide +kernel
theorem dX4_mendFollowers_49 : decode cX4_mendFollowers 49 = .ok (.getfield 201, 3) := by decide +kernel
theorem dX4_mendFollowers_52 : decode cX4_mendFollowers 52 = .ok (.iload_n 2, 1) := by decide +kernel
theorem dX4_mendFollowers_53 : decode cX4_mendFollowers 53 = .ok (.aaload, 1) := by decide +kernel
theorem dX4_mendFollowers_54 : decode cX4_mendFollowers 54 = .ok (.invokevirtual 109, 3) := by decide +kernel
theorem dX4_mendFollowers_57 : decode cX4_mendFollowers 57 = .ok (.iinc 2 1, 3) := by decide +kernel
theorem dX4_mendFollowers_60 : decode cX4_mendFollowers 60 = .ok (.goto (-58), 3) := by decide +kernel
theorem dX4_mendFollowers_63 : decode cX4_mendFollowers 63 = .ok (.return_, 1) := by decide +kernel
theorem dX4_packPlace_0 : decode cX4_packPlace 0 = .ok (.aload_n 0, 1) := by decide +kernel
theorem dX4_packPlace_1 : decode cX4_packPlace 1 = .ok (.getfield 10, 3) := by decide +kernel
theorem dX4_packPlace_4 : decode cX4_packPlace 4 = .ok (.getfield 89, 3) := by decide +kernel
theorem dX4_packPlace_7 : decode cX4_packPlace 7 = .ok (.iload_n 1, 1) := by decide +kernel
theorem dX4_packPlace_8 : decode cX4_packPlace 8 = .ok (.aaload, 1) := by decide +kernel
theorem dX4_packPlace_9 : decode cX4_packPlace 9 = .ok (.astore_n 2, 1) := by decide +kernel
theorem dX4_packPlace_10 : decode cX4_packPlace 10 = .ok (.aload_n 0, 1) := by decide +kernel
theorem dX4_packPlace_11 : decode cX4_packPlace 11 = .ok (.getfield 34, 3) := by decide +kernel
theorem dX4_packPlace_14 : decode cX4_packPlace 14 = .ok (.getfield 201, 3) := by decide +kernel
theorem dX4_packPlace_17 : decode cX4_packPlace 17 = .ok (.iload_n 1, 1) := by decide +kernel
theorem dX4_packPlace_18 : decode cX4_packPlace 18 = .ok (.aaload, 1) := by decide +kernel
theorem dX4_packPlace_19 : decode cX4_packPlace 19 = .ok (.astore_n 3, 1) := by decide +kernel
theorem dX4_packPlace_20 : decode cX4_packPlace 20 = .ok (.iconst (-1), 1) := by decide +kernel
theorem dX4_packPlace_21 : decode cX4_packPlace 21 = .ok (.istore 4, 2) := by decide +kernel
theorem dX4_packPlace_23 : decode cX4_packPlace 23 = .ok (.bipush 7, 2) := by decide +kernel
theorem dX4_packPlace_25 : decode cX4_packPlace 25 = .ok (.istore 5, 2) := by decide +kernel
theorem dX4_packPlace_27 : decode cX4_packPlace 27 = .ok (.iconst 0, 1) := by decide +kernel
theorem dX4_packPlace_28 : decode cX4_packPlace 28 = .ok (.istore 6, 2) := by decide +kernel
theorem dX4_packPlace_30 : decode cX4_packPlace 30 = .ok (.iload 6, 2) := by decide +kernel
theorem dX4_packPlace_32 : decode cX4_packPlace 32 = .ok (.iload_n 1, 1) := by decide +kernel
theorem dX4_packPlace_33 : decode cX4_packPlace 33 = .ok (.if_icmp .ge 50, 3) := by decide +kernel
theorem dX4_packPlace_36 : decode cX4_packPlace 36 = .ok (.aload_n 0, 1) := by decide +kernel
theorem dX4_packPlace_37 : decode cX4_packPlace 37 = .ok (.iload 6, 2) := by decide +kernel
theorem dX4_packPlace_39 : decode cX4_packPlace 39 = .ok (.aload_n 2, 1) := by decide +kernel
theorem dX4_packPlace_40 : decode cX4_packPlace 40 = .ok (.getfield 98, 3) := by decide +kernel
theorem dX4_packPlace_43 : decode cX4_packPlace 43 = .ok (.invokevirtual 191, 3) := by decide +kernel
theorem dX4_packPlace_46 : decode cX4_packPlace 46 = .ok (.ifCond .eq 31, 3) := by decide +kernel
theorem dX4_packPlace_49 : decode cX4_packPlace 49 = .ok (.aload_n 0, 1) := by decide +kernel
theorem dX4_packPlace_50 : decode cX4_packPlace 50 = .ok (.iload 6, 2) := by decide +kernel
theorem dX4_packPlace_52 : decode cX4_packPlace 52 = .ok (.aload_n 2, 1) := by decide +kernel
theorem dX4_packPlace_53 : decode cX4_packPlace 53 = .ok (.getfield 98, 3) := by decide +kernel
theorem dX4_packPlace_56 : decode cX4_packPlace 56 = .ok (.aload_n 3, 1) := by decide +kernel
theorem dX4_packPlace_57 : decode cX4_packPlace 57 = .ok (.invokevirtual 170, 3) := by decide +kernel
theorem dX4_packPlace_60 : decode cX4_packPlace 60 = .ok (.istore 7, 2) := by decide +kernel
theorem dX4_packPlace_62 : decode cX4_packPlace 62 = .ok (.iload 7, 2) := by decide +kernel
theorem dX4_packPlace_64 : decode cX4_packPlace 64 = .ok (.iload 5, 2) := by decide +kernel
theorem dX4_packPlace_66 : decode cX4_packPlace 66 = .ok (.if_icmp .ge 11, 3) := by decide +kernel
theorem dX4_packPlace_69 : decode cX4_packPlace 69 = .ok (.iload 7, 2) := by decide +kernel
theorem dX4_packPlace_71 : decode cX4_packPlace 71 = .ok (.istore 5, 2) := by decide +kernel
theorem dX4_packPlace_73 : decode cX4_packPlace 73 = .ok (.iload 6, 2) := by decide +kernel
theorem dX4_packPlace_75 : decode cX4_packPlace 75 = .ok (.istore 4, 2) := by decide +kernel
theorem dX4_packPlace_77 : decode cX4_packPlace 77 = .ok (.iinc 6 1, 3) := by decide +kernel
theorem dX4_packPlace_80 : decode cX4_packPlace 80 = .ok (.goto (-50), 3) := by decide +kernel
theorem dX4_packPlace_83 : decode cX4_packPlace 83 = .ok (.iload 4, 2) := by decide +kernel
theorem dX4_packPlace_85 : decode cX4_packPlace 85 = .ok (.iconst (-1), 1) := by decide +kernel
theorem dX4_packPlace_86 : decode cX4_packPlace 86 = .ok (.if_icmp .ne 11, 3) := by decide +kernel
theorem dX4_packPlace_89 : decode cX4_packPlace 89 = .ok (.aload_n 2, 1) := by decide +kernel
theorem dX4_packPlace_90 : decode cX4_packPlace 90 = .ok (.aload_n 3, 1) := by decide +kernel
theorem dX4_packPlace_91 : decode cX4_packPlace 91 = .ok (.invokevirtual 109, 3) := by decide +kernel
theorem dX4_packPlace_94 : decode cX4_packPlace 94 = .ok (.goto 39, 3) := by decide +kernel
theorem dX4_packPlace_97 : decode cX4_packPlace 97 = .ok (.aload_n 0, 1) := by decide +kernel
theorem dX4_packPlace_98 : decode cX4_packPlace 98 = .ok (.iload 4, 2) := by decide +kernel
theorem dX4_packPlace_100 : decode cX4_packPlace 100 = .ok (.aload_n 2, 1) := by decide +kernel
theorem dX4_packPlace_101 : decode cX4_packPlace 101 = .ok (.getfield 98, 3) := by decide +kernel
theorem dX4_packPlace_104 : decode cX4_packPlace 104 = .ok (.aload_n 0, 1) := by decide +kernel
theorem dX4_packPlace_105 : decode cX4_packPlace 105 = .ok (.getfield 38, 3) := by decide +kernel
theorem dX4_packPlace_108 : decode cX4_packPlace 108 = .ok (.invokevirtual 113, 3) := by decide +kernel
theorem dX4_packPlace_111 : decode cX4_packPlace 111 = .ok (.aload_n 2, 1) := by decide +kernel
theorem dX4_packPlace_112 : decode cX4_packPlace 112 = .ok (.aload_n 0, 1) := by decide +kernel
theorem dX4_packPlace_113 : decode cX4_packPlace 113 = .ok (.getfield 10, 3) := by decide +kernel
theorem dX4_packPlace_116 : decode cX4_packPlace 116 = .ok (.getfield 89, 3) := by decide +kernel
theorem dX4_packPlace_119 : decode cX4_packPlace 119 = .ok (.iload 4, 2) := by decide +kernel
theorem dX4_packPlace_121 : decode cX4_packPlace 121 = .ok (.aaload, 1) := by decide +kernel
theorem dX4_packPlace_122 : decode cX4_packPlace 122 = .ok (.getfield 93, 3) := by decide +kernel
theorem dX4_packPlace_125 : decode cX4_packPlace 125 = .ok (.aload_n 0, 1) := by decide +kernel
theorem dX4_packPlace_126 : decode cX4_packPlace 126 = .ok (.getfield 38, 3) := by decide +kernel
theorem dX4_packPlace_129 : decode cX4_packPlace 129 = .ok (.aload_n 3, 1) := by decide +kernel
theorem dX4_packPlace_130 : decode cX4_packPlace 130 = .ok (.invokevirtual 120, 3) := by decide +kernel
theorem dX4_packPlace_133 : decode cX4_packPlace 133 = .ok (.return_, 1) := by decide +kernel
theorem dX4_propertyOf_0 : decode cX4_propertyOf 0 = .ok (.aload_n 0, 1) := by decide +kernel
theorem dX4_propertyOf_1 : decode cX4_propertyOf 1 = .ok (.getfield 10, 3) := by decide +kernel
theorem dX4_propertyOf_4 : decode cX4_propertyOf 4 = .ok (.getfield 89, 3) := by decide +kernel
theorem dX4_propertyOf_7 : decode cX4_propertyOf 7 = .ok (.iload_n 1, 1) := by decide +kernel
theorem dX4_propertyOf_8 : decode cX4_propertyOf 8 = .ok (.aaload, 1) := by decide +kernel
theorem dX4_propertyOf_9 : decode cX4_propertyOf 9 = .ok (.astore_n 3, 1) := by decide +kernel
theorem dX4_propertyOf_10 : decode cX4_propertyOf 10 = .ok (.iload_n 2, 1) := by decide +kernel
theorem dX4_propertyOf_11 : decode cX4_propertyOf 11 = .ok (.tableswitch 97 0 6 #[41, 46, 51, 56, 61, 73, 92], 41) := by decide +kernel
theorem dX4_propertyOf_52 : decode cX4_propertyOf 52 = .ok (.aload_n 3, 1) := by decide +kernel
theorem dX4_propertyOf_53 : decode cX4_propertyOf 53 = .ok (.getfield 98, 3) := by decide +kernel
theorem dX4_propertyOf_56 : decode cX4_propertyOf 56 = .ok (.ireturn, 1) := by decide +kernel
theorem dX4_propertyOf_57 : decode cX4_propertyOf 57 = .ok (.aload_n 3, 1) := by decide +kernel
theorem dX4_propertyOf_58 : decode cX4_propertyOf 58 = .ok (.getfield 102, 3) := by decide +kernel
theorem dX4_propertyOf_61 : decode cX4_propertyOf 61 = .ok (.ireturn, 1) := by decide +kernel
theorem dX4_propertyOf_62 : decode cX4_propertyOf 62 = .ok (.aload_n 3, 1) := by decide +kernel
theorem dX4_propertyOf_63 : decode cX4_propertyOf 63 = .ok (.getfield 198, 3) := by decide +kernel
theorem dX4_propertyOf_66 : decode cX4_propertyOf 66 = .ok (.ireturn, 1) := by decide +kernel
theorem dX4_propertyOf_67 : decode cX4_propertyOf 67 = .ok (.aload_n 3, 1) := by decide +kernel
theorem dX4_propertyOf_68 : decode cX4_propertyOf 68 = .ok (.getfield 149, 3) := by decide +kernel
theorem dX4_propertyOf_71 : decode cX4_propertyOf 71 = .ok (.ireturn, 1) := by decide +kernel
theorem dX4_propertyOf_72 : decode cX4_propertyOf 72 = .ok (.aload_n 0, 1) := by decide +kernel
theorem dX4_propertyOf_73 : decode cX4_propertyOf 73 = .ok (.getfield 10, 3) := by decide +kernel
theorem dX4_propertyOf_76 : decode cX4_propertyOf 76 = .ok (.aload_n 3, 1) := by decide +kernel
theorem dX4_propertyOf_77 : decode cX4_propertyOf 77 = .ok (.getfield 93, 3) := by decide +kernel
theorem dX4_propertyOf_80 : decode cX4_propertyOf 80 = .ok (.invokevirtual 195, 3) := by decide +kernel
theorem dX4_propertyOf_83 : decode cX4_propertyOf 83 = .ok (.ireturn, 1) := by decide +kernel
theorem dX4_propertyOf_84 : decode cX4_propertyOf 84 = .ok (.aload_n 0, 1) := by decide +kernel
theorem dX4_propertyOf_85 : decode cX4_propertyOf 85 = .ok (.getfield 34, 3) := by decide +kernel
theorem dX4_propertyOf_88 : decode cX4_propertyOf 88 = .ok (.getfield 127, 3) := by decide +kernel
theorem dX4_propertyOf_91 : decode cX4_propertyOf 91 = .ok (.iload_n 1, 1) := by decide +kernel
theorem dX4_propertyOf_92 : decode cX4_propertyOf 92 = .ok (.iaload, 1) := by decide +kernel
theorem dX4_propertyOf_93 : decode cX4_propertyOf 93 = .ok (.iconst (-1), 1) := by decide +kernel
theorem dX4_propertyOf_94 : decode cX4_propertyOf 94 = .ok (.if_icmp .ne 7, 3) := by decide +kernel
theorem dX4_propertyOf_97 : decode cX4_propertyOf 97 = .ok (.iconst 1, 1) := by decide +kernel
theorem dX4_propertyOf_98 : decode cX4_propertyOf 98 = .ok (.goto 4, 3) := by decide +kernel
theorem dX4_propertyOf_101 : decode cX4_propertyOf 101 = .ok (.iconst 0, 1) := by decide +kernel
theorem dX4_propertyOf_102 : decode cX4_propertyOf 102 = .ok (.ireturn, 1) := by decide +kernel
theorem dX4_propertyOf_103 : decode cX4_propertyOf 103 = .ok (.aload_n 3, 1) := by decide +kernel
theorem dX4_propertyOf_104 : decode cX4_propertyOf 104 = .ok (.invokevirtual 205, 3) := by decide +kernel
theorem dX4_propertyOf_107 : decode cX4_propertyOf 107 = .ok (.ireturn, 1) := by decide +kernel
theorem dX4_propertyOf_108 : decode cX4_propertyOf 108 = .ok (.aload_n 0, 1) := by decide +kernel
theorem dX4_propertyOf_109 : decode cX4_propertyOf 109 = .ok (.getfield 10, 3) := by decide +kernel
theorem dX4_propertyOf_112 : decode cX4_propertyOf 112 = .ok (.aload_n 3, 1) := by decide +kernel
theorem dX4_propertyOf_113 : decode cX4_propertyOf 113 = .ok (.getfield 93, 3) := by decide +kernel
theorem dX4_propertyOf_116 : decode cX4_propertyOf 116 = .ok (.invokevirtual 146, 3) := by decide +kernel
theorem dX4_propertyOf_119 : decode cX4_propertyOf 119 = .ok (.ireturn, 1) := by decide +kernel
theorem dX4_tally_0 : decode cX4_tally 0 = .ok (.iload_n 1, 1) := by decide +kernel
theorem dX4_tally_1 : decode cX4_tally 1 = .ok (.tableswitch 165 0 11 #[63, 71, 79, 97, 105, 113, 118, 126, 134, 142, 147, 155], 63) := by decide +kernel
theorem dX4_tally_64 : decode cX4_tally 64 = .ok (.aload_n 0, 1) := by decide +kernel
theorem dX4_tally_65 : decode cX4_tally 65 = .ok (.getfield 10, 3) := by decide +kernel
theorem dX4_tally_68 : decode cX4_tally 68 = .ok (.getfield 54, 3) := by decide +kernel
theorem dX4_tally_71 : decode cX4_tally 71 = .ok (.ireturn, 1) := by decide +kernel
theorem dX4_tally_72 : decode cX4_tally 72 = .ok (.aload_n 0, 1) := by decide +kernel
theorem dX4_tally_73 : decode cX4_tally 73 = .ok (.getfield 10, 3) := by decide +kernel
theorem dX4_tally_76 : decode cX4_tally 76 = .ok (.getfield 117, 3) := by decide +kernel
theorem dX4_tally_79 : decode cX4_tally 79 = .ok (.ireturn, 1) := by decide +kernel
theorem dX4_tally_80 : decode cX4_tally 80 = .ok (.aload_n 0, 1) := by decide +kernel
theorem dX4_tally_81 : decode cX4_tally 81 = .ok (.getfield 10, 3) := by decide +kernel
theorem dX4_tally_84 : decode cX4_tally 84 = .ok (.getfield 51, 3) := by decide +kernel
theorem dX4_tally_87 : decode cX4_tally 87 = .ok (.aload_n 0, 1) := by decide +kernel
theorem dX4_tally_88 : decode cX4_tally 88 = .ok (.getfield 10, 3) := by decide +kernel
theorem dX4_tally_91 : decode cX4_tally 91 = .ok (.getfield 54, 3) := by decide +kernel
theorem dX4_tally_94 : decode cX4_tally 94 = .ok (.invokestatic 99, 3) := by decide +kernel
theorem dX4_tally_97 : decode cX4_tally 97 = .ok (.ireturn, 1) := by decide +kernel
theorem dX4_tally_98 : decode cX4_tally 98 = .ok (.aload_n 0, 1) := by decide +kernel
theorem dX4_tally_99 : decode cX4_tally 99 = .ok (.getfield 10, 3) := by decide +kernel
theorem dX4_tally_102 : decode cX4_tally 102 = .ok (.getfield 79, 3) := by decide +kernel
theorem dX4_tally_105 : decode cX4_tally 105 = .ok (.ireturn, 1) := by decide +kernel
theorem dX4_tally_106 : decode cX4_tally 106 = .ok (.aload_n 0, 1) := by decide +kernel
theorem dX4_tally_107 : decode cX4_tally 107 = .ok (.getfield 10, 3) := by decide +kernel
theorem dX4_tally_110 : decode cX4_tally 110 = .ok (.invokevirtual 206, 3) := by decide +kernel
theorem dX4_tally_113 : decode cX4_tally 113 = .ok (.ireturn, 1) := by decide +kernel
theorem dX4_tally_114 : decode cX4_tally 114 = .ok (.aload_n 0, 1) := by decide +kernel
theorem dX4_tally_115 : decode cX4_tally 115 = .ok (.invokevirtual 209, 3) := by decide +kernel
theorem dX4_tally_118 : decode cX4_tally 118 = .ok (.ireturn, 1) := by decide +kernel
theorem dX4_tally_119 : decode cX4_tally 119 = .ok (.aload_n 0, 1) := by decide +kernel
theorem dX4_tally_120 : decode cX4_tally 120 = .ok (.getfield 10, 3) := by decide +kernel
theorem dX4_tally_123 : decode cX4_tally 123 = .ok (.invokevirtual 151, 3) := by decide +kernel
theorem dX4_tally_126 : decode cX4_tally 126 = .ok (.ireturn, 1) := by decide +kernel
theorem dX4_tally_127 : decode cX4_tally 127 = .ok (.aload_n 0, 1) := by decide +kernel
theorem dX4_tally_128 : decode cX4_tally 128 = .ok (.getfield 10, 3) := by decide +kernel
theorem dX4_tally_131 : decode cX4_tally 131 = .ok (.getfield 82, 3) := by decide +kernel
theorem dX4_tally_134 : decode cX4_tally 134 = .ok (.ireturn, 1) := by decide +kernel
theorem dX4_tally_135 : decode cX4_tally 135 = .ok (.aload_n 0, 1) := by decide +kernel
theorem dX4_tally_136 : decode cX4_tally 136 = .ok (.getfield 10, 3) := by decide +kernel
theorem dX4_tally_139 : decode cX4_tally 139 = .ok (.invokevirtual 212, 3) := by decide +kernel
theorem dX4_tally_142 : decode cX4_tally 142 = .ok (.ireturn, 1) := by decide +kernel
theorem dX4_tally_143 : decode cX4_tally 143 = .ok (.aload_n 0, 1) := by decide +kernel
theorem dX4_tally_144 : decode cX4_tally 144 = .ok (.getfield 20, 3) := by decide +kernel
theorem dX4_tally_147 : decode cX4_tally 147 = .ok (.ireturn, 1) := by decide +kernel
theorem dX4_tally_148 : decode cX4_tally 148 = .ok (.aload_n 0, 1) := by decide +kernel
theorem dX4_tally_149 : decode cX4_tally 149 = .ok (.getfield 27, 3) := by decide +kernel
theorem dX4_tally_152 : decode cX4_tally 152 = .ok (.getfield 45, 3) := by decide +kernel
theorem dX4_tally_155 : decode cX4_tally 155 = .ok (.ireturn, 1) := by decide +kernel
theorem dX4_tally_156 : decode cX4_tally 156 = .ok (.aload_n 0, 1) := by decide +kernel
theorem dX4_tally_157 : decode cX4_tally 157 = .ok (.getfield 10, 3) := by decide +kernel
theorem dX4_tally_160 : decode cX4_tally 160 = .ok (.getfield 130, 3) := by decide +kernel
theorem dX4_tally_163 : decode cX4_tally 163 = .ok (.iconst 0, 1) := by decide +kernel
theorem dX4_tally_164 : decode cX4_tally 164 = .ok (.iaload, 1) := by decide +kernel
theorem dX4_tally_165 : decode cX4_tally 165 = .ok (.ireturn, 1) := by decide +kernel
theorem dX4_tally_166 : decode cX4_tally 166 = .ok (.aload_n 0, 1) := by decide +kernel
theorem dX4_tally_167 : decode cX4_tally 167 = .ok (.getfield 10, 3) := by decide +kernel
theorem dX4_tally_170 : decode cX4_tally 170 = .ok (.getfield 130, 3) := by decide +kernel
theorem dX4_tally_173 : decode cX4_tally 173 = .ok (.iconst 1, 1) := by decide +kernel
theorem dX4_tally_174 : decode cX4_tally 174 = .ok (.iaload, 1) := by decide +kernel
theorem dX4_tally_175 : decode cX4_tally 175 = .ok (.ireturn, 1) := by decide +kernel
theorem dX4_unreadable_0 : decode cX4_unreadable 0 = .ok (.iconst 0, 1) := by decide +kernel
theorem dX4_unreadable_1 : decode cX4_unreadable 1 = .ok (.istore_n 1, 1) := by decide +kernel
theorem dX4_unreadable_2 : decode cX4_unreadable 2 = .ok (.iconst 0, 1) := by decide +kernel
theorem dX4_unreadable_3 : decode cX4_unreadable 3 = .ok (.istore_n 2, 1) := by decide +kernel
theorem dX4_unreadable_4 : decode cX4_unreadable 4 = .ok (.iload_n 2, 1) := by decide +kernel
theorem dX4_unreadable_5 : decode cX4_unreadable 5 = .ok (.aload_n 0, 1) := by decide +kernel
theorem dX4_unreadable_6 : decode cX4_unreadable 6 = .ok (.getfield 10, 3) := by decide +kernel
theorem dX4_unreadable_9 : decode cX4_unreadable 9 = .ok (.getfield 79, 3) := by decide +kernel
theorem dX4_unreadable_12 : decode cX4_unreadable 12 = .ok (.if_icmp .ge 25, 3) := by decide +kernel
theorem dX4_unreadable_15 : decode cX4_unreadable 15 = .ok (.aload_n 0, 1) := by decide +kernel
theorem dX4_unreadable_16 : decode cX4_unreadable 16 = .ok (.getfield 34, 3) := by decide +kernel
theorem dX4_unreadable_19 : decode cX4_unreadable 19 = .ok (.getfield 127, 3) := by decide +kernel
theorem dX4_unreadable_22 : decode cX4_unreadable 22 = .ok (.iload_n 2, 1) := by decide +kernel
theorem dX4_unreadable_23 : decode cX4_unreadable 23 = .ok (.iaload, 1) := by decide +kernel
theorem dX4_unreadable_24 : decode cX4_unreadable 24 = .ok (.iconst (-1), 1) := by decide +kernel
theorem dX4_unreadable_25 : decode cX4_unreadable 25 = .ok (.if_icmp .eq 6, 3) := by decide +kernel
theorem dX4_unreadable_28 : decode cX4_unreadable 28 = .ok (.iinc 1 1, 3) := by decide +kernel
theorem dX4_unreadable_31 : decode cX4_unreadable 31 = .ok (.iinc 2 1, 3) := by decide +kernel
theorem dX4_unreadable_34 : decode cX4_unreadable 34 = .ok (.goto (-30), 3) := by decide +kernel
theorem dX4_unreadable_37 : decode cX4_unreadable 37 = .ok (.iload_n 1, 1) := by decide +kernel
theorem dX4_unreadable_38 : decode cX4_unreadable 38 = .ok (.ireturn, 1) := by decide +kernel
theorem dX4_reasonOf_0 : decode cX4_reasonOf 0 = .ok (.aload_n 0, 1) := by decide +kernel
theorem dX4_reasonOf_1 : decode cX4_reasonOf 1 = .ok (.getfield 10, 3) := by decide +kernel
theorem dX4_reasonOf_4 : decode cX4_reasonOf 4 = .ok (.iload_n 1, 1) := by decide +kernel
theorem dX4_reasonOf_5 : decode cX4_reasonOf 5 = .ok (.invokevirtual 124, 3) := by decide +kernel
theorem dX4_reasonOf_8 : decode cX4_reasonOf 8 = .ok (.istore_n 2, 1) := by decide +kernel
theorem dX4_reasonOf_9 : decode cX4_reasonOf 9 = .ok (.iload_n 2, 1) := by decide +kernel
theorem dX4_reasonOf_10 : decode cX4_reasonOf 10 = .ok (.iconst (-1), 1) := by decide +kernel
theorem dX4_reasonOf_11 : decode cX4_reasonOf 11 = .ok (.if_icmp .ne 7, 3) := by decide +kernel
theorem dX4_reasonOf_14 : decode cX4_reasonOf 14 = .ok (.iconst 0, 1) := by decide +kernel
theorem dX4_reasonOf_15 : decode cX4_reasonOf 15 = .ok (.goto 12, 3) := by decide +kernel
theorem dX4_reasonOf_18 : decode cX4_reasonOf 18 = .ok (.aload_n 0, 1) := by decide +kernel
theorem dX4_reasonOf_19 : decode cX4_reasonOf 19 = .ok (.getfield 34, 3) := by decide +kernel
theorem dX4_reasonOf_22 : decode cX4_reasonOf 22 = .ok (.getfield 127, 3) := by decide +kernel
theorem dX4_reasonOf_25 : decode cX4_reasonOf 25 = .ok (.iload_n 2, 1) := by decide +kernel
theorem dX4_reasonOf_26 : decode cX4_reasonOf 26 = .ok (.iaload, 1) := by decide +kernel
theorem dX4_reasonOf_27 : decode cX4_reasonOf 27 = .ok (.ireturn, 1) := by decide +kernel
theorem dX4_causeOf_0 : decode cX4_causeOf 0 = .ok (.iload_n 2, 1) := by decide +kernel
theorem dX4_causeOf_1 : decode cX4_causeOf 1 = .ok (.bipush 99, 2) := by decide +kernel
theorem dX4_causeOf_3 : decode cX4_causeOf 3 = .ok (.if_icmp .le 5, 3) := by decide +kernel
theorem dX4_causeOf_6 : decode cX4_causeOf 6 = .ok (.iconst (-1), 1) := by decide +kernel
theorem dX4_causeOf_7 : decode cX4_causeOf 7 = .ok (.ireturn, 1) := by decide +kernel
theorem dX4_causeOf_8 : decode cX4_causeOf 8 = .ok (.iload_n 1, 1) := by decide +kernel
theorem dX4_causeOf_9 : decode cX4_causeOf 9 = .ok (.istore 4, 2) := by decide +kernel
theorem dX4_causeOf_11 : decode cX4_causeOf 11 = .ok (.iconst 0, 1) := by decide +kernel
theorem dX4_causeOf_12 : decode cX4_causeOf 12 = .ok (.istore 5, 2) := by decide +kernel
theorem dX4_causeOf_14 : decode cX4_causeOf 14 = .ok (.iload 5, 2) := by decide +kernel
theorem dX4_causeOf_16 : decode cX4_causeOf 16 = .ok (.iload_n 2, 1) := by decide +kernel
theorem dX4_causeOf_17 : decode cX4_causeOf 17 = .ok (.if_icmp .ge 32, 3) := by decide +kernel
theorem dX4_causeOf_20 : decode cX4_causeOf 20 = .ok (.aload_n 0, 1) := by decide +kernel
theorem dX4_causeOf_21 : decode cX4_causeOf 21 = .ok (.iload 4, 2) := by decide +kernel
theorem dX4_causeOf_23 : decode cX4_causeOf 23 = .ok (.invokevirtual 215, 3) := by decide +kernel
theorem dX4_causeOf_26 : decode cX4_causeOf 26 = .ok (.iconst 2, 1) := by decide +kernel
theorem dX4_causeOf_27 : decode cX4_causeOf 27 = .ok (.if_icmp .eq 5, 3) := by decide +kernel
theorem dX4_causeOf_30 : decode cX4_causeOf 30 = .ok (.iconst (-1), 1) := by decide +kernel
theorem dX4_causeOf_31 : decode cX4_causeOf 31 = .ok (.ireturn, 1) := by decide +kernel
theorem dX4_causeOf_32 : decode cX4_causeOf 32 = .ok (.aload_n 0, 1) := by decide +kernel
theorem dX4_causeOf_33 : decode cX4_causeOf 33 = .ok (.getfield 10, 3) := by decide +kernel
theorem dX4_causeOf_36 : decode cX4_causeOf 36 = .ok (.iload 4, 2) := by decide +kernel
theorem dX4_causeOf_38 : decode cX4_causeOf 38 = .ok (.invokevirtual 174, 3) := by decide +kernel
theorem dX4_causeOf_41 : decode cX4_causeOf 41 = .ok (.istore 4, 2) := by decide +kernel
theorem dX4_causeOf_43 : decode cX4_causeOf 43 = .ok (.iinc 5 1, 3) := by decide +kernel
theorem dX4_causeOf_46 : decode cX4_causeOf 46 = .ok (.goto (-32), 3) := by decide +kernel
theorem dX4_causeOf_49 : decode cX4_causeOf 49 = .ok (.aload_n 0, 1) := by decide +kernel
theorem dX4_causeOf_50 : decode cX4_causeOf 50 = .ok (.iload 4, 2) := by decide +kernel
theorem dX4_causeOf_52 : decode cX4_causeOf 52 = .ok (.invokevirtual 215, 3) := by decide +kernel
theorem dX4_causeOf_55 : decode cX4_causeOf 55 = .ok (.istore 5, 2) := by decide +kernel
theorem dX4_causeOf_57 : decode cX4_causeOf 57 = .ok (.iload 5, 2) := by decide +kernel
theorem dX4_causeOf_59 : decode cX4_causeOf 59 = .ok (.iconst (-1), 1) := by decide +kernel
theorem dX4_causeOf_60 : decode cX4_causeOf 60 = .ok (.if_icmp .ne 5, 3) := by decide +kernel
theorem dX4_causeOf_63 : decode cX4_causeOf 63 = .ok (.iconst (-1), 1) := by decide +kernel
theorem dX4_causeOf_64 : decode cX4_causeOf 64 = .ok (.ireturn, 1) := by decide +kernel
theorem dX4_causeOf_65 : decode cX4_causeOf 65 = .ok (.iload_n 3, 1) := by decide +kernel
theorem dX4_causeOf_66 : decode cX4_causeOf 66 = .ok (.ifCond .ne 8, 3) := by decide +kernel
theorem dX4_causeOf_69 : decode cX4_causeOf 69 = .ok (.iload 5, 2) := by decide +kernel
theorem dX4_causeOf_71 : decode cX4_causeOf 71 = .ok (.goto 5, 3) := by decide +kernel
theorem dX4_causeOf_74 : decode cX4_causeOf 74 = .ok (.iload 4, 2) := by decide +kernel
theorem dX4_causeOf_76 : decode cX4_causeOf 76 = .ok (.ireturn, 1) := by decide +kernel
theorem dX4_nearestToGame_0 : decode cX4_nearestToGame 0 = .ok (.iconst (-1), 1) := by decide +kernel
theorem dX4_nearestToGame_1 : decode cX4_nearestToGame 1 = .ok (.istore_n 1, 1) := by decide +kernel
theorem dX4_nearestToGame_2 : decode cX4_nearestToGame 2 = .ok (.bipush 13, 2) := by decide +kernel
theorem dX4_nearestToGame_4 : decode cX4_nearestToGame 4 = .ok (.istore_n 2, 1) := by decide +kernel
theorem dX4_nearestToGame_5 : decode cX4_nearestToGame 5 = .ok (.iconst 0, 1) := by decide +kernel
theorem dX4_nearestToGame_6 : decode cX4_nearestToGame 6 = .ok (.istore_n 3, 1) := by decide +kernel
theorem dX4_nearestToGame_7 : decode cX4_nearestToGame 7 = .ok (.iload_n 3, 1) := by decide +kernel
theorem dX4_nearestToGame_8 : decode cX4_nearestToGame 8 = .ok (.aload_n 0, 1) := by decide +kernel
theorem dX4_nearestToGame_9 : decode cX4_nearestToGame 9 = .ok (.getfield 10, 3) := by decide +kernel
theorem dX4_nearestToGame_12 : decode cX4_nearestToGame 12 = .ok (.getfield 79, 3) := by decide +kernel
theorem dX4_nearestToGame_15 : decode cX4_nearestToGame 15 = .ok (.if_icmp .ge 84, 3) := by decide +kernel
theorem dX4_nearestToGame_18 : decode cX4_nearestToGame 18 = .ok (.aload_n 0, 1) := by decide +kernel
theorem dX4_nearestToGame_19 : decode cX4_nearestToGame 19 = .ok (.getfield 10, 3) := by decide +kernel
theorem dX4_nearestToGame_22 : decode cX4_nearestToGame 22 = .ok (.getfield 89, 3) := by decide +kernel
theorem dX4_nearestToGame_25 : decode cX4_nearestToGame 25 = .ok (.iload_n 3, 1) := by decide +kernel
theorem dX4_nearestToGame_26 : decode cX4_nearestToGame 26 = .ok (.aaload, 1) := by decide +kernel
theorem dX4_nearestToGame_27 : decode cX4_nearestToGame 27 = .ok (.astore 4, 2) := by decide +kernel
theorem dX4_nearestToGame_29 : decode cX4_nearestToGame 29 = .ok (.aload_n 0, 1) := by decide +kernel
theorem dX4_nearestToGame_30 : decode cX4_nearestToGame 30 = .ok (.getfield 34, 3) := by decide +kernel
theorem dX4_nearestToGame_33 : decode cX4_nearestToGame 33 = .ok (.getfield 127, 3) := by decide +kernel
theorem dX4_nearestToGame_36 : decode cX4_nearestToGame 36 = .ok (.iload_n 3, 1) := by decide +kernel
theorem dX4_nearestToGame_37 : decode cX4_nearestToGame 37 = .ok (.iaload, 1) := by decide +kernel
theorem dX4_nearestToGame_38 : decode cX4_nearestToGame 38 = .ok (.iconst (-1), 1) := by decide +kernel
theorem dX4_nearestToGame_39 : decode cX4_nearestToGame 39 = .ok (.if_icmp .ne 54, 3) := by decide +kernel
theorem dX4_nearestToGame_42 : decode cX4_nearestToGame 42 = .ok (.aload 4, 2) := by decide +kernel
theorem dX4_nearestToGame_44 : decode cX4_nearestToGame 44 = .ok (.getfield 98, 3) := by decide +kernel
theorem dX4_nearestToGame_47 : decode cX4_nearestToGame 47 = .ok (.aload_n 0, 1) := by decide +kernel
theorem dX4_nearestToGame_48 : decode cX4_nearestToGame 48 = .ok (.getfield 10, 3) := by decide +kernel
theorem dX4_nearestToGame_51 : decode cX4_nearestToGame 51 = .ok (.getfield 54, 3) := by decide +kernel
theorem dX4_nearestToGame_54 : decode cX4_nearestToGame 54 = .ok (.if_icmp .gt 39, 3) := by decide +kernel
theorem dX4_nearestToGame_57 : decode cX4_nearestToGame 57 = .ok (.aload_n 0, 1) := by decide +kernel
theorem dX4_nearestToGame_58 : decode cX4_nearestToGame 58 = .ok (.iload_n 3, 1) := by decide +kernel
theorem dX4_nearestToGame_59 : decode cX4_nearestToGame 59 = .ok (.aload_n 0, 1) := by decide +kernel
theorem dX4_nearestToGame_60 : decode cX4_nearestToGame 60 = .ok (.getfield 10, 3) := by decide +kernel
theorem dX4_nearestToGame_63 : decode cX4_nearestToGame 63 = .ok (.getfield 54, 3) := by decide +kernel
theorem dX4_nearestToGame_66 : decode cX4_nearestToGame 66 = .ok (.aload_n 0, 1) := by decide +kernel
theorem dX4_nearestToGame_67 : decode cX4_nearestToGame 67 = .ok (.getfield 10, 3) := by decide +kernel
theorem dX4_nearestToGame_70 : decode cX4_nearestToGame 70 = .ok (.getfield 51, 3) := by decide +kernel
theorem dX4_nearestToGame_73 : decode cX4_nearestToGame 73 = .ok (.invokevirtual 170, 3) := by decide +kernel
theorem dX4_nearestToGame_76 : decode cX4_nearestToGame 76 = .ok (.istore 5, 2) := by decide +kernel
theorem dX4_nearestToGame_78 : decode cX4_nearestToGame 78 = .ok (.iload 5, 2) := by decide +kernel
theorem dX4_nearestToGame_80 : decode cX4_nearestToGame 80 = .ok (.iload_n 2, 1) := by decide +kernel
theorem dX4_nearestToGame_81 : decode cX4_nearestToGame 81 = .ok (.if_icmp .ge 12, 3) := by decide +kernel
theorem dX4_nearestToGame_84 : decode cX4_nearestToGame 84 = .ok (.iload 5, 2) := by decide +kernel
theorem dX4_nearestToGame_86 : decode cX4_nearestToGame 86 = .ok (.istore_n 2, 1) := by decide +kernel
theorem dX4_nearestToGame_87 : decode cX4_nearestToGame 87 = .ok (.aload 4, 2) := by decide +kernel
theorem dX4_nearestToGame_89 : decode cX4_nearestToGame 89 = .ok (.getfield 93, 3) := by decide +kernel
theorem dX4_nearestToGame_92 : decode cX4_nearestToGame 92 = .ok (.istore_n 1, 1) := by decide +kernel
theorem dX4_nearestToGame_93 : decode cX4_nearestToGame 93 = .ok (.iinc 3 1, 3) := by decide +kernel
theorem dX4_nearestToGame_96 : decode cX4_nearestToGame 96 = .ok (.goto (-89), 3) := by decide +kernel
theorem dX4_nearestToGame_99 : decode cX4_nearestToGame 99 = .ok (.iload_n 1, 1) := by decide +kernel
theorem dX4_nearestToGame_100 : decode cX4_nearestToGame 100 = .ok (.ireturn, 1) := by decide +kernel
theorem dX4_addPlace_0 : decode cX4_addPlace 0 = .ok (.aload_n 0, 1) := by decide +kernel
theorem dX4_addPlace_1 : decode cX4_addPlace 1 = .ok (.getfield 10, 3) := by decide +kernel
theorem dX4_addPlace_4 : decode cX4_addPlace 4 = .ok (.getfield 89, 3) := by decide +kernel
theorem dX4_addPlace_7 : decode cX4_addPlace 7 = .ok (.iload_n 3, 1) := by decide +kernel
theorem dX4_addPlace_8 : decode cX4_addPlace 8 = .ok (.aaload, 1) := by decide +kernel
theorem dX4_addPlace_9 : decode cX4_addPlace 9 = .ok (.astore 4, 2) := by decide +kernel
theorem dX4_addPlace_11 : decode cX4_addPlace 11 = .ok (.ldc2_w 185, 3) := by decide +kernel
theorem dX4_addPlace_14 : decode cX4_addPlace 14 = .ok (.lload_n 1, 1) := by decide +kernel
theorem dX4_addPlace_15 : decode cX4_addPlace 15 = .ok (.lmul, 1) := by decide +kernel
theorem dX4_addPlace_16 : decode cX4_addPlace 16 = .ok (.aload 4, 2) := by decide +kernel
theorem dX4_addPlace_18 : decode cX4_addPlace 18 = .ok (.getfield 93, 3) := by decide +kernel
theorem dX4_addPlace_21 : decode cX4_addPlace 21 = .ok (.i2l, 1) := by decide +kernel
theorem dX4_addPlace_22 : decode cX4_addPlace 22 = .ok (.ladd, 1) := by decide +kernel
theorem dX4_addPlace_23 : decode cX4_addPlace 23 = .ok (.lstore 5, 2) := by decide +kernel
theorem dX4_addPlace_25 : decode cX4_addPlace 25 = .ok (.iconst 0, 1) := by decide +kernel
theorem dX4_addPlace_26 : decode cX4_addPlace 26 = .ok (.istore 7, 2) := by decide +kernel
theorem dX4_addPlace_28 : decode cX4_addPlace 28 = .ok (.iload 7, 2) := by decide +kernel
theorem dX4_addPlace_30 : decode cX4_addPlace 30 = .ok (.bipush 8, 2) := by decide +kernel
theorem dX4_addPlace_32 : decode cX4_addPlace 32 = .ok (.if_icmp .ge 26, 3) := by decide +kernel
theorem dX4_addPlace_35 : decode cX4_addPlace 35 = .ok (.ldc2_w 185, 3) := by decide +kernel
theorem dX4_addPlace_38 : decode cX4_addPlace 38 = .ok (.lload 5, 2) := by decide +kernel
theorem dX4_addPlace_40 : decode cX4_addPlace 40 = .ok (.lmul, 1) := by decide +kernel
theorem dX4_addPlace_41 : decode cX4_addPlace 41 = .ok (.aload_n 0, 1) := by decide +kernel
theorem dX4_addPlace_42 : decode cX4_addPlace 42 = .ok (.iload_n 3, 1) := by decide +kernel
theorem dX4_addPlace_43 : decode cX4_addPlace 43 = .ok (.iload 7, 2) := by decide +kernel
theorem dX4_addPlace_45 : decode cX4_addPlace 45 = .ok (.invokevirtual 160, 3) := by decide +kernel
theorem dX4_addPlace_48 : decode cX4_addPlace 48 = .ok (.i2l, 1) := by decide +kernel
theorem dX4_addPlace_49 : decode cX4_addPlace 49 = .ok (.ladd, 1) := by decide +kernel
theorem dX4_addPlace_50 : decode cX4_addPlace 50 = .ok (.lstore 5, 2) := by decide +kernel
theorem dX4_addPlace_52 : decode cX4_addPlace 52 = .ok (.iinc 7 1, 3) := by decide +kernel
theorem dX4_addPlace_55 : decode cX4_addPlace 55 = .ok (.goto (-27), 3) := by decide +kernel
theorem dX4_addPlace_58 : decode cX4_addPlace 58 = .ok (.iconst 0, 1) := by decide +kernel
theorem dX4_addPlace_59 : decode cX4_addPlace 59 = .ok (.istore 7, 2) := by decide +kernel
theorem dX4_addPlace_61 : decode cX4_addPlace 61 = .ok (.iload 7, 2) := by decide +kernel
theorem dX4_addPlace_63 : decode cX4_addPlace 63 = .ok (.aload 4, 2) := by decide +kernel
theorem dX4_addPlace_65 : decode cX4_addPlace 65 = .ok (.getfield 149, 3) := by decide +kernel
theorem dX4_addPlace_68 : decode cX4_addPlace 68 = .ok (.if_icmp .ge 45, 3) := by decide +kernel
theorem dX4_addPlace_71 : decode cX4_addPlace 71 = .ok (.ldc2_w 185, 3) := by decide +kernel
theorem dX4_addPlace_74 : decode cX4_addPlace 74 = .ok (.lload 5, 2) := by decide +kernel
theorem dX4_addPlace_76 : decode cX4_addPlace 76 = .ok (.lmul, 1) := by decide +kernel
theorem dX4_addPlace_77 : decode cX4_addPlace 77 = .ok (.aload 4, 2) := by decide +kernel
theorem dX4_addPlace_79 : decode cX4_addPlace 79 = .ok (.getfield 163, 3) := by decide +kernel
theorem dX4_addPlace_82 : decode cX4_addPlace 82 = .ok (.iload 7, 2) := by decide +kernel
theorem dX4_addPlace_84 : decode cX4_addPlace 84 = .ok (.iaload, 1) := by decide +kernel
theorem dX4_addPlace_85 : decode cX4_addPlace 85 = .ok (.i2l, 1) := by decide +kernel
theorem dX4_addPlace_86 : decode cX4_addPlace 86 = .ok (.ladd, 1) := by decide +kernel
theorem dX4_addPlace_87 : decode cX4_addPlace 87 = .ok (.lstore 5, 2) := by decide +kernel
theorem dX4_addPlace_89 : decode cX4_addPlace 89 = .ok (.ldc2_w 185, 3) := by decide +kernel
theorem dX4_addPlace_92 : decode cX4_addPlace 92 = .ok (.lload 5, 2) := by decide +kernel
theorem dX4_addPlace_94 : decode cX4_addPlace 94 = .ok (.lmul, 1) := by decide +kernel
theorem dX4_addPlace_95 : decode cX4_addPlace 95 = .ok (.aload 4, 2) := by decide +kernel
theorem dX4_addPlace_97 : decode cX4_addPlace 97 = .ok (.getfield 150, 3) := by decide +kernel
theorem dX4_addPlace_100 : decode cX4_addPlace 100 = .ok (.iload 7, 2) := by decide +kernel
theorem dX4_addPlace_102 : decode cX4_addPlace 102 = .ok (.iaload, 1) := by decide +kernel
theorem dX4_addPlace_103 : decode cX4_addPlace 103 = .ok (.i2l, 1) := by decide +kernel
theorem dX4_addPlace_104 : decode cX4_addPlace 104 = .ok (.ladd, 1) := by decide +kernel
theorem dX4_addPlace_105 : decode cX4_addPlace 105 = .ok (.lstore 5, 2) := by decide +kernel
theorem dX4_addPlace_107 : decode cX4_addPlace 107 = .ok (.iinc 7 1, 3) := by decide +kernel
theorem dX4_addPlace_110 : decode cX4_addPlace 110 = .ok (.goto (-49), 3) := by decide +kernel
theorem dX4_addPlace_113 : decode cX4_addPlace 113 = .ok (.ldc2_w 185, 3) := by decide +kernel
theorem dX4_addPlace_116 : decode cX4_addPlace 116 = .ok (.lload 5, 2) := by decide +kernel
theorem dX4_addPlace_118 : decode cX4_addPlace 118 = .ok (.lmul, 1) := by decide +kernel
theorem dX4_addPlace_119 : decode cX4_addPlace 119 = .ok (.aload_n 0, 1) := by decide +kernel
theorem dX4_addPlace_120 : decode cX4_addPlace 120 = .ok (.aload 4, 2) := by decide +kernel
theorem dX4_addPlace_122 : decode cX4_addPlace 122 = .ok (.getfield 93, 3) := by decide +kernel
theorem dX4_addPlace_125 : decode cX4_addPlace 125 = .ok (.invokevirtual 215, 3) := by decide +kernel
theorem dX4_addPlace_128 : decode cX4_addPlace 128 = .ok (.i2l, 1) := by decide +kernel
theorem dX4_addPlace_129 : decode cX4_addPlace 129 = .ok (.ladd, 1) := by decide +kernel
theorem dX4_addPlace_130 : decode cX4_addPlace 130 = .ok (.lreturn, 1) := by decide +kernel
theorem dX4_distance_0 : decode cX4_distance 0 = .ok (.aload_n 0, 1) := by decide +kernel
theorem dX4_distance_1 : decode cX4_distance 1 = .ok (.iload_n 1, 1) := by decide +kernel
theorem dX4_distance_2 : decode cX4_distance 2 = .ok (.iload_n 2, 1) := by decide +kernel
theorem dX4_distance_3 : decode cX4_distance 3 = .ok (.aload_n 0, 1) := by decide +kernel
theorem dX4_distance_4 : decode cX4_distance 4 = .ok (.getfield 38, 3) := by decide +kernel
theorem dX4_distance_7 : decode cX4_distance 7 = .ok (.invokevirtual 113, 3) := by decide +kernel
theorem dX4_distance_10 : decode cX4_distance 10 = .ok (.iconst 0, 1) := by decide +kernel
theorem dX4_distance_11 : decode cX4_distance 11 = .ok (.istore 4, 2) := by decide +kernel
theorem dX4_distance_13 : decode cX4_distance 13 = .ok (.iconst 0, 1) := by decide +kernel
theorem dX4_distance_14 : decode cX4_distance 14 = .ok (.istore 5, 2) := by decide +kernel
theorem dX4_distance_16 : decode cX4_distance 16 = .ok (.iload 5, 2) := by decide +kernel
theorem dX4_distance_18 : decode cX4_distance 18 = .ok (.iload_n 2, 1) := by decide +kernel
theorem dX4_distance_19 : decode cX4_distance 19 = .ok (.invokestatic 57, 3) := by decide +kernel
theorem dX4_distance_22 : decode cX4_distance 22 = .ok (.if_icmp .ge 26, 3) := by decide +kernel
theorem dX4_distance_25 : decode cX4_distance 25 = .ok (.aload_n 0, 1) := by decide +kernel
theorem dX4_distance_26 : decode cX4_distance 26 = .ok (.getfield 38, 3) := by decide +kernel
theorem dX4_distance_29 : decode cX4_distance 29 = .ok (.iload 5, 2) := by decide +kernel
theorem dX4_distance_31 : decode cX4_distance 31 = .ok (.iaload, 1) := by decide +kernel
theorem dX4_distance_32 : decode cX4_distance 32 = .ok (.aload_n 3, 1) := by decide +kernel
theorem dX4_distance_33 : decode cX4_distance 33 = .ok (.iload 5, 2) := by decide +kernel
theorem dX4_distance_35 : decode cX4_distance 35 = .ok (.iaload, 1) := by decide +kernel
theorem dX4_distance_36 : decode cX4_distance 36 = .ok (.if_icmp .eq 6, 3) := by decide +kernel
theorem dX4_distance_39 : decode cX4_distance 39 = .ok (.iinc 4 1, 3) := by decide +kernel
theorem dX4_distance_42 : decode cX4_distance 42 = .ok (.iinc 5 1, 3) := by decide +kernel
theorem dX4_distance_45 : decode cX4_distance 45 = .ok (.goto (-29), 3) := by decide +kernel
theorem dX4_distance_48 : decode cX4_distance 48 = .ok (.iload 4, 2) := by decide +kernel
theorem dX4_distance_50 : decode cX4_distance 50 = .ok (.ireturn, 1) := by decide +kernel
theorem dX4_raiseRead_0 : decode cX4_raiseRead 0 = .ok (.aload_n 0, 1) := by decide +kernel
theorem dX4_raiseRead_1 : decode cX4_raiseRead 1 = .ok (.getfield 34, 3) := by decide +kernel
theorem dX4_raiseRead_4 : decode cX4_raiseRead 4 = .ok (.getfield 201, 3) := by decide +kernel
theorem dX4_raiseRead_7 : decode cX4_raiseRead 7 = .ok (.iload_n 1, 1) := by decide +kernel
theorem dX4_raiseRead_8 : decode cX4_raiseRead 8 = .ok (.aaload, 1) := by decide +kernel
theorem dX4_raiseRead_9 : decode cX4_raiseRead 9 = .ok (.iconst 0, 1) := by decide +kernel
theorem dX4_raiseRead_10 : decode cX4_raiseRead 10 = .ok (.aload_n 3, 1) := by decide +kernel
theorem dX4_raiseRead_11 : decode cX4_raiseRead 11 = .ok (.iconst 0, 1) := by decide +kernel
theorem dX4_raiseRead_12 : decode cX4_raiseRead 12 = .ok (.bipush 12, 2) := by decide +kernel
theorem dX4_raiseRead_14 : decode cX4_raiseRead 14 = .ok (.invokestatic 69, 3) := by decide +kernel
theorem dX4_raiseRead_17 : decode cX4_raiseRead 17 = .ok (.aload_n 3, 1) := by decide +kernel
theorem dX4_raiseRead_18 : decode cX4_raiseRead 18 = .ok (.aload_n 0, 1) := by decide +kernel
theorem dX4_raiseRead_19 : decode cX4_raiseRead 19 = .ok (.getfield 10, 3) := by decide +kernel
theorem dX4_raiseRead_22 : decode cX4_raiseRead 22 = .ok (.getfield 89, 3) := by decide +kernel
theorem dX4_raiseRead_25 : decode cX4_raiseRead 25 = .ok (.iload_n 1, 1) := by decide +kernel
theorem dX4_raiseRead_26 : decode cX4_raiseRead 26 = .ok (.aaload, 1) := by decide +kernel
theorem dX4_raiseRead_27 : decode cX4_raiseRead 27 = .ok (.getfield 98, 3) := by decide +kernel
theorem dX4_raiseRead_30 : decode cX4_raiseRead 30 = .ok (.iload_n 2, 1) := by decide +kernel
theorem dX4_raiseRead_31 : decode cX4_raiseRead 31 = .ok (.invokestatic 75, 3) := by decide +kernel
theorem dX4_raiseRead_34 : decode cX4_raiseRead 34 = .ok (.return_, 1) := by decide +kernel
theorem dX4_sizeOf_0 : decode cX4_sizeOf 0 = .ok (.bipush 6, 2) := by decide +kernel
theorem dX4_sizeOf_2 : decode cX4_sizeOf 2 = .ok (.iconst 2, 1) := by decide +kernel
theorem dX4_sizeOf_3 : decode cX4_sizeOf 3 = .ok (.iload_n 0, 1) := by decide +kernel
theorem dX4_sizeOf_4 : decode cX4_sizeOf 4 = .ok (.imul, 1) := by decide +kernel
theorem dX4_sizeOf_5 : decode cX4_sizeOf 5 = .ok (.iadd, 1) := by decide +kernel
theorem dX4_sizeOf_6 : decode cX4_sizeOf 6 = .ok (.ireturn, 1) := by decide +kernel
theorem dX4_sumOf_0 : decode cX4_sumOf 0 = .ok (.bipush 7, 2) := by decide +kernel
theorem dX4_sumOf_2 : decode cX4_sumOf 2 = .ok (.istore_n 2, 1) := by decide +kernel
theorem dX4_sumOf_3 : decode cX4_sumOf 3 = .ok (.iconst 0, 1) := by decide +kernel
theorem dX4_sumOf_4 : decode cX4_sumOf 4 = .ok (.istore_n 3, 1) := by decide +kernel
theorem dX4_sumOf_5 : decode cX4_sumOf 5 = .ok (.iload_n 3, 1) := by decide +kernel
theorem dX4_sumOf_6 : decode cX4_sumOf 6 = .ok (.iload_n 1, 1) := by decide +kernel
theorem dX4_sumOf_7 : decode cX4_sumOf 7 = .ok (.invokestatic 57, 3) := by decide +kernel
theorem dX4_sumOf_10 : decode cX4_sumOf 10 = .ok (.if_icmp .ge 22, 3) := by decide +kernel
theorem dX4_sumOf_13 : decode cX4_sumOf 13 = .ok (.bipush 31, 2) := by decide +kernel
theorem dX4_sumOf_15 : decode cX4_sumOf 15 = .ok (.iload_n 2, 1) := by decide +kernel
theorem dX4_sumOf_16 : decode cX4_sumOf 16 = .ok (.imul, 1) := by decide +kernel
theorem dX4_sumOf_17 : decode cX4_sumOf 17 = .ok (.aload_n 0, 1) := by decide +kernel
theorem dX4_sumOf_18 : decode cX4_sumOf 18 = .ok (.iload_n 3, 1) := by decide +kernel
theorem dX4_sumOf_19 : decode cX4_sumOf 19 = .ok (.iaload, 1) := by decide +kernel
theorem dX4_sumOf_20 : decode cX4_sumOf 20 = .ok (.iadd, 1) := by decide +kernel
theorem dX4_sumOf_21 : decode cX4_sumOf 21 = .ok (.sipush 9973, 3) := by decide +kernel
theorem dX4_sumOf_24 : decode cX4_sumOf 24 = .ok (.irem, 1) := by decide +kernel
theorem dX4_sumOf_25 : decode cX4_sumOf 25 = .ok (.istore_n 2, 1) := by decide +kernel
theorem dX4_sumOf_26 : decode cX4_sumOf 26 = .ok (.iinc 3 1, 3) := by decide +kernel
theorem dX4_sumOf_29 : decode cX4_sumOf 29 = .ok (.goto (-24), 3) := by decide +kernel
theorem dX4_sumOf_32 : decode cX4_sumOf 32 = .ok (.iload_n 2, 1) := by decide +kernel
theorem dX4_sumOf_33 : decode cX4_sumOf 33 = .ok (.ireturn, 1) := by decide +kernel
theorem dX4_raiseValues_0 : decode cX4_raiseValues 0 = .ok (.iload_n 1, 1) := by decide +kernel
theorem dX4_raiseValues_1 : decode cX4_raiseValues 1 = .ok (.iconst 1, 1) := by decide +kernel
theorem dX4_raiseValues_2 : decode cX4_raiseValues 2 = .ok (.if_icmp .gt 33, 3) := by decide +kernel
theorem dX4_raiseValues_5 : decode cX4_raiseValues 5 = .ok (.iload_n 2, 1) := by decide +kernel
theorem dX4_raiseValues_6 : decode cX4_raiseValues 6 = .ok (.iconst 2, 1) := by decide +kernel
theorem dX4_raiseValues_7 : decode cX4_raiseValues 7 = .ok (.if_icmp .lt 28, 3) := by decide +kernel
theorem dX4_raiseValues_10 : decode cX4_raiseValues 10 = .ok (.aload_n 0, 1) := by decide +kernel
theorem dX4_raiseValues_11 : decode cX4_raiseValues 11 = .ok (.bipush 8, 2) := by decide +kernel
theorem dX4_raiseValues_13 : decode cX4_raiseValues 13 = .ok (.aload_n 0, 1) := by decide +kernel
theorem dX4_raiseValues_14 : decode cX4_raiseValues 14 = .ok (.iconst 0, 1) := by decide +kernel
theorem dX4_raiseValues_15 : decode cX4_raiseValues 15 = .ok (.iaload, 1) := by decide +kernel
theorem dX4_raiseValues_16 : decode cX4_raiseValues 16 = .ok (.aload_n 0, 1) := by decide +kernel
theorem dX4_raiseValues_17 : decode cX4_raiseValues 17 = .ok (.iconst 1, 1) := by decide +kernel
theorem dX4_raiseValues_18 : decode cX4_raiseValues 18 = .ok (.iaload, 1) := by decide +kernel
theorem dX4_raiseValues_19 : decode cX4_raiseValues 19 = .ok (.iadd, 1) := by decide +kernel
theorem dX4_raiseValues_20 : decode cX4_raiseValues 20 = .ok (.aload_n 0, 1) := by decide +kernel
theorem dX4_raiseValues_21 : decode cX4_raiseValues 21 = .ok (.iconst 2, 1) := by decide +kernel
theorem dX4_raiseValues_22 : decode cX4_raiseValues 22 = .ok (.iaload, 1) := by decide +kernel
theorem dX4_raiseValues_23 : decode cX4_raiseValues 23 = .ok (.iadd, 1) := by decide +kernel
theorem dX4_raiseValues_24 : decode cX4_raiseValues 24 = .ok (.iconst 3, 1) := by decide +kernel
theorem dX4_raiseValues_25 : decode cX4_raiseValues 25 = .ok (.idiv, 1) := by decide +kernel
theorem dX4_raiseValues_26 : decode cX4_raiseValues 26 = .ok (.iastore, 1) := by decide +kernel
theorem dX4_raiseValues_27 : decode cX4_raiseValues 27 = .ok (.aload_n 0, 1) := by decide +kernel
theorem dX4_raiseValues_28 : decode cX4_raiseValues 28 = .ok (.bipush 9, 2) := by decide +kernel
theorem dX4_raiseValues_30 : decode cX4_raiseValues 30 = .ok (.aload_n 0, 1) := by decide +kernel
theorem dX4_raiseValues_31 : decode cX4_raiseValues 31 = .ok (.bipush 7, 2) := by decide +kernel
theorem dX4_raiseValues_33 : decode cX4_raiseValues 33 = .ok (.iaload, 1) := by decide +kernel
theorem dX4_raiseValues_34 : decode cX4_raiseValues 34 = .ok (.iastore, 1) := by decide +kernel
theorem dX4_raiseValues_35 : decode cX4_raiseValues 35 = .ok (.iload_n 1, 1) := by decide +kernel
theorem dX4_raiseValues_36 : decode cX4_raiseValues 36 = .ok (.iconst 2, 1) := by decide +kernel
theorem dX4_raiseValues_37 : decode cX4_raiseValues 37 = .ok (.if_icmp .gt 43, 3) := by decide +kernel
theorem dX4_raiseValues_40 : decode cX4_raiseValues 40 = .ok (.iload_n 2, 1) := by decide +kernel
theorem dX4_raiseValues_41 : decode cX4_raiseValues 41 = .ok (.iconst 3, 1) := by decide +kernel
theorem dX4_raiseValues_42 : decode cX4_raiseValues 42 = .ok (.if_icmp .lt 38, 3) := by decide +kernel
theorem dX4_raiseValues_45 : decode cX4_raiseValues 45 = .ok (.aload_n 0, 1) := by decide +kernel
theorem dX4_raiseValues_46 : decode cX4_raiseValues 46 = .ok (.iconst 1, 1) := by decide +kernel
theorem dX4_raiseValues_47 : decode cX4_raiseValues 47 = .ok (.iaload, 1) := by decide +kernel
theorem dX4_raiseValues_48 : decode cX4_raiseValues 48 = .ok (.istore_n 3, 1) := by decide +kernel
theorem dX4_raiseValues_49 : decode cX4_raiseValues 49 = .ok (.aload_n 0, 1) := by decide +kernel
theorem dX4_raiseValues_50 : decode cX4_raiseValues 50 = .ok (.iconst 1, 1) := by decide +kernel
theorem dX4_raiseValues_51 : decode cX4_raiseValues 51 = .ok (.aload_n 0, 1) := by decide +kernel
theorem dX4_raiseValues_52 : decode cX4_raiseValues 52 = .ok (.iconst 4, 1) := by decide +kernel
theorem dX4_raiseValues_53 : decode cX4_raiseValues 53 = .ok (.iaload, 1) := by decide +kernel
theorem dX4_raiseValues_54 : decode cX4_raiseValues 54 = .ok (.iastore, 1) := by decide +kernel
theorem dX4_raiseValues_55 : decode cX4_raiseValues 55 = .ok (.aload_n 0, 1) := by decide +kernel
theorem dX4_raiseValues_56 : decode cX4_raiseValues 56 = .ok (.iconst 4, 1) := by decide +kernel
theorem dX4_raiseValues_57 : decode cX4_raiseValues 57 = .ok (.iload_n 3, 1) := by decide +kernel
theorem dX4_raiseValues_58 : decode cX4_raiseValues 58 = .ok (.iastore, 1) := by decide +kernel
theorem dX4_raiseValues_59 : decode cX4_raiseValues 59 = .ok (.aload_n 0, 1) := by decide +kernel
theorem dX4_raiseValues_60 : decode cX4_raiseValues 60 = .ok (.bipush 10, 2) := by decide +kernel
theorem dX4_raiseValues_62 : decode cX4_raiseValues 62 = .ok (.bipush 99, 2) := by decide +kernel
theorem dX4_raiseValues_64 : decode cX4_raiseValues 64 = .ok (.iconst 2, 1) := by decide +kernel
theorem dX4_raiseValues_65 : decode cX4_raiseValues 65 = .ok (.aload_n 0, 1) := by decide +kernel
theorem dX4_raiseValues_66 : decode cX4_raiseValues 66 = .ok (.bipush 9, 2) := by decide +kernel
theorem dX4_raiseValues_68 : decode cX4_raiseValues 68 = .ok (.iaload, 1) := by decide +kernel
theorem dX4_raiseValues_69 : decode cX4_raiseValues 69 = .ok (.imul, 1) := by decide +kernel
theorem dX4_raiseValues_70 : decode cX4_raiseValues 70 = .ok (.invokestatic 218, 3) := by decide +kernel
theorem dX4_raiseValues_73 : decode cX4_raiseValues 73 = .ok (.iastore, 1) := by decide +kernel
theorem dX4_raiseValues_74 : decode cX4_raiseValues 74 = .ok (.aload_n 0, 1) := by decide +kernel
theorem dX4_raiseValues_75 : decode cX4_raiseValues 75 = .ok (.bipush 11, 2) := by decide +kernel
theorem dX4_raiseValues_77 : decode cX4_raiseValues 77 = .ok (.bipush 50, 2) := by decide +kernel
theorem dX4_raiseValues_79 : decode cX4_raiseValues 79 = .ok (.iastore, 1) := by decide +kernel
theorem dX4_raiseValues_80 : decode cX4_raiseValues 80 = .ok (.return_, 1) := by decide +kernel
end
section
theorem dX5_init_0 : decode cX5_init 0 = .ok (.aload_n 0, 1) := by decide +kernel
theorem dX5_init_1 : decode cX5_init 1 = .ok (.invokespecial 1, 3) := by decide +kernel
theorem dX5_init_4 : decode cX5_init 4 = .ok (.aload_n 0, 1) := by decide +kernel
theorem dX5_init_5 : decode cX5_init 5 = .ok (.sipush 598, 3) := by decide +kernel
theorem dX5_init_8 : decode cX5_init 8 = .ok (.newarray .int, 2) := by decide +kernel
theorem dX5_init_10 : decode cX5_init 10 = .ok (.putfield 7, 3) := by decide +kernel
theorem dX5_init_13 : decode cX5_init 13 = .ok (.aload_n 0, 1) := by decide +kernel
theorem dX5_init_14 : decode cX5_init 14 = .ok (.sipush 3588, 3) := by decide +kernel
theorem dX5_init_17 : decode cX5_init 17 = .ok (.newarray .int, 2) := by decide +kernel
theorem dX5_init_19 : decode cX5_init 19 = .ok (.putfield 13, 3) := by decide +kernel
theorem dX5_init_22 : decode cX5_init 22 = .ok (.aload_n 0, 1) := by decide +kernel
theorem dX5_init_23 : decode cX5_init 23 = .ok (.bipush 12, 2) := by decide +kernel
theorem dX5_init_25 : decode cX5_init 25 = .ok (.newarray .int, 2) := by decide +kernel
theorem dX5_init_27 : decode cX5_init 27 = .ok (.putfield 16, 3) := by decide +kernel
theorem dX5_init_30 : decode cX5_init 30 = .ok (.aload_n 0, 1) := by decide +kernel
theorem dX5_init_31 : decode cX5_init 31 = .ok (.bipush 24, 2) := by decide +kernel
theorem dX5_init_33 : decode cX5_init 33 = .ok (.newarray .int, 2) := by decide +kernel
theorem dX5_init_35 : decode cX5_init 35 = .ok (.putfield 19, 3) := by decide +kernel
theorem dX5_init_38 : decode cX5_init 38 = .ok (.aload_n 0, 1) := by decide +kernel
theorem dX5_init_39 : decode cX5_init 39 = .ok (.bipush 24, 2) := by decide +kernel
theorem dX5_init_41 : decode cX5_init 41 = .ok (.newarray .int, 2) := by decide +kernel
theorem dX5_init_43 : decode cX5_init 43 = .ok (.putfield 22, 3) := by decide +kernel
theorem dX5_init_46 : decode cX5_init 46 = .ok (.aload_n 0, 1) := by decide +kernel
theorem dX5_init_47 : decode cX5_init 47 = .ok (.bipush 12, 2) := by decide +kernel
theorem dX5_init_49 : decode cX5_init 49 = .ok (.newarray .int, 2) := by decide +kernel
theorem dX5_init_51 : decode cX5_init 51 = .ok (.putfield 25, 3) := by decide +kernel
theorem dX5_init_54 : decode cX5_init 54 = .ok (.aload_n 0, 1) := by decide +kernel
theorem dX5_init_55 : decode cX5_init 55 = .ok (.bipush 80, 2) := by decide +kernel
theorem dX5_init_57 : decode cX5_init 57 = .ok (.newarray .int, 2) := by decide +kernel
theorem dX5_init_59 : decode cX5_init 59 = .ok (.putfield 28, 3) := by decide +kernel
theorem dX5_init_62 : decode cX5_init 62 = .ok (.aload_n 0, 1) := by decide +kernel
theorem dX5_init_63 : decode cX5_init 63 = .ok (.bipush 80, 2) := by decide +kernel
theorem dX5_init_65 : decode cX5_init 65 = .ok (.newarray .int, 2) := by decide +kernel
theorem dX5_init_67 : decode cX5_init 67 = .ok (.putfield 31, 3) := by decide +kernel
theorem dX5_init_70 : decode cX5_init 70 = .ok (.aload_n 0, 1) := by decide +kernel
theorem dX5_init_71 : decode cX5_init 71 = .ok (.bipush 20, 2) := by decide +kernel
theorem dX5_init_73 : decode cX5_init 73 = .ok (.newarray .boolean, 2) := by decide +kernel
theorem dX5_init_75 : decode cX5_init 75 = .ok (.putfield 34, 3) := by decide +kernel
theorem dX5_init_78 : decode cX5_init 78 = .ok (.aload_n 0, 1) := by decide +kernel
theorem dX5_init_79 : decode cX5_init 79 = .ok (.getfield 7, 3) := by decide +kernel
theorem dX5_init_82 : decode cX5_init 82 = .ok (.sipush 582, 3) := by decide +kernel
theorem dX5_init_85 : decode cX5_init 85 = .ok (.iconst 1, 1) := by decide +kernel
theorem dX5_init_86 : decode cX5_init 86 = .ok (.iastore, 1) := by decide +kernel
theorem dX5_init_87 : decode cX5_init 87 = .ok (.aload_n 0, 1) := by decide +kernel
theorem dX5_init_88 : decode cX5_init 88 = .ok (.getfield 7, 3) := by decide +kernel
theorem dX5_init_91 : decode cX5_init 91 = .ok (.sipush 595, 3) := by decide +kernel
theorem dX5_init_94 : decode cX5_init 94 = .ok (.iconst (-1), 1) := by decide +kernel
theorem dX5_init_95 : decode cX5_init 95 = .ok (.iastore, 1) := by decide +kernel
theorem dX5_init_96 : decode cX5_init 96 = .ok (.aload_n 0, 1) := by decide +kernel
theorem dX5_init_97 : decode cX5_init 97 = .ok (.getfield 7, 3) := by decide +kernel
theorem dX5_init_100 : decode cX5_init 100 = .ok (.sipush 596, 3) := by decide +kernel
theorem dX5_init_103 : decode cX5_init 103 = .ok (.iconst 4, 1) := by decide +kernel
theorem dX5_init_104 : decode cX5_init 104 = .ok (.iastore, 1) := by decide +kernel
theorem dX5_init_105 : decode cX5_init 105 = .ok (.aload_n 0, 1) := by decide +kernel
theorem dX5_init_106 : decode cX5_init 106 = .ok (.getfield 7, 3) := by decide +kernel
theorem dX5_init_109 : decode cX5_init 109 = .ok (.sipush 597, 3) := by decide +kernel
theorem dX5_init_112 : decode cX5_init 112 = .ok (.iconst 1, 1) := by decide +kernel
theorem dX5_init_113 : decode cX5_init 113 = .ok (.iastore, 1) := by decide +kernel
theorem dX5_init_114 : decode cX5_init 114 = .ok (.return_, 1) := by decide +kernel
theorem dX5_in_0 : decode cX5_in 0 = .ok (.iload_n 0, 1) := by decide +kernel
theorem dX5_in_1 : decode cX5_in 1 = .ok (.iload_n 1, 1) := by decide +kernel
theorem dX5_in_2 : decode cX5_in 2 = .ok (.if_icmp .lt 12, 3) := by decide +kernel
theorem dX5_in_5 : decode cX5_in 5 = .ok (.iload_n 0, 1) := by decide +kernel
theorem dX5_in_6 : decode cX5_in 6 = .ok (.iload_n 2, 1) := by decide +kernel
theorem dX5_in_7 : decode cX5_in 7 = .ok (.if_icmp .gt 7, 3) := by decide +kernel
theorem dX5_in_10 : decode cX5_in 10 = .ok (.iconst 1, 1) := by decide +kernel
theorem dX5_in_11 : decode cX5_in 11 = .ok (.goto 4, 3) := by decide +kernel
theorem dX5_in_14 : decode cX5_in 14 = .ok (.iconst 0, 1) := by decide +kernel
theorem dX5_in_15 : decode cX5_in 15 = .ok (.ireturn, 1) := by decide +kernel
theorem dX5_valuesOf_0 : decode cX5_valuesOf 0 = .ok (.bipush 6, 2) := by decide +kernel
theorem dX5_valuesOf_2 : decode cX5_valuesOf 2 = .ok (.iconst 2, 1) := by decide +kernel
theorem dX5_valuesOf_3 : decode cX5_valuesOf 3 = .ok (.iload_n 0, 1) := by decide +kernel
theorem dX5_valuesOf_4 : decode cX5_valuesOf 4 = .ok (.imul, 1) := by decide +kernel
theorem dX5_valuesOf_5 : decode cX5_valuesOf 5 = .ok (.iadd, 1) := by decide +kernel
theorem dX5_valuesOf_6 : decode cX5_valuesOf 6 = .ok (.ireturn, 1) := by decide +kernel
theorem dX5_of_0 : decode cX5_of 0 = .ok (.aload_n 0, 1) := by decide +kernel
theorem dX5_of_1 : decode cX5_of 1 = .ok (.getfield 7, 3) := by decide +kernel
theorem dX5_of_4 : decode cX5_of 4 = .ok (.bipush 29, 2) := by decide +kernel
theorem dX5_of_6 : decode cX5_of 6 = .ok (.iload_n 1, 1) := by decide +kernel
theorem dX5_of_7 : decode cX5_of 7 = .ok (.imul, 1) := by decide +kernel
theorem dX5_of_8 : decode cX5_of 8 = .ok (.iload_n 2, 1) := by decide +kernel
theorem dX5_of_9 : decode cX5_of 9 = .ok (.iadd, 1) := by decide +kernel
theorem dX5_of_10 : decode cX5_of 10 = .ok (.iaload, 1) := by decide +kernel
theorem dX5_of_11 : decode cX5_of 11 = .ok (.ireturn, 1) := by decide +kernel
theorem dX5_put_0 : decode cX5_put 0 = .ok (.aload_n 0, 1) := by decide +kernel
theorem dX5_put_1 : decode cX5_put 1 = .ok (.getfield 7, 3) := by decide +kernel
theorem dX5_put_4 : decode cX5_put 4 = .ok (.bipush 29, 2) := by decide +kernel
theorem dX5_put_6 : decode cX5_put 6 = .ok (.iload_n 1, 1) := by decide +kernel
theorem dX5_put_7 : decode cX5_put 7 = .ok (.imul, 1) := by decide +kernel
theorem dX5_put_8 : decode cX5_put 8 = .ok (.iload_n 2, 1) := by decide +kernel
theorem dX5_put_9 : decode cX5_put 9 = .ok (.iadd, 1) := by decide +kernel
theorem dX5_put_10 : decode cX5_put 10 = .ok (.iload_n 3, 1) := by decide +kernel
theorem dX5_put_11 : decode cX5_put 11 = .ok (.iastore, 1) := by decide +kernel
theorem dX5_put_12 : decode cX5_put 12 = .ok (.return_, 1) := by decide +kernel
theorem dX5_isWhole_0 : decode cX5_isWhole 0 = .ok (.aload_n 0, 1) := by decide +kernel
theorem dX5_isWhole_1 : decode cX5_isWhole 1 = .ok (.iload_n 1, 1) := by decide +kernel
theorem dX5_isWhole_2 : decode cX5_isWhole 2 = .ok (.iconst 3, 1) := by decide +kernel
theorem dX5_isWhole_3 : decode cX5_isWhole 3 = .ok (.invokevirtual 38, 3) := by decide +kernel
theorem dX5_isWhole_6 : decode cX5_isWhole 6 = .ok (.iconst (-1), 1) := by decide +kernel
theorem dX5_isWhole_7 : decode cX5_isWhole 7 = .ok (.if_icmp .ne 7, 3) := by decide +kernel
theorem dX5_isWhole_10 : decode cX5_isWhole 10 = .ok (.iconst 1, 1) := by decide +kernel
theorem dX5_isWhole_11 : decode cX5_isWhole 11 = .ok (.goto 4, 3) := by decide +kernel
theorem dX5_isWhole_14 : decode cX5_isWhole 14 = .ok (.iconst 0, 1) := by decide +kernel
theorem dX5_isWhole_15 : decode cX5_isWhole 15 = .ok (.ireturn, 1) := by decide +kernel
theorem dX5_keeps_0 : decode cX5_keeps 0 = .ok (.aload_n 0, 1) := by decide +kernel
theorem dX5_keeps_1 : decode cX5_keeps 1 = .ok (.getfield 42, 3) := by decide +kernel
theorem dX5_keeps_4 : decode cX5_keeps 4 = .ok (.bipush 6, 2) := by decide +kernel
theorem dX5_keeps_6 : decode cX5_keeps 6 = .ok (.if_icmp .ne 44, 3) := by decide +kernel
theorem dX5_keeps_9 : decode cX5_keeps 9 = .ok (.iconst 0, 1) := by decide +kernel
theorem dX5_keeps_10 : decode cX5_keeps 10 = .ok (.istore_n 1, 1) := by decide +kernel
theorem dX5_keeps_11 : decode cX5_keeps 11 = .ok (.iload_n 1, 1) := by decide +kernel
theorem dX5_keeps_12 : decode cX5_keeps 12 = .ok (.sipush 2990, 3) := by decide +kernel
theorem dX5_keeps_15 : decode cX5_keeps 15 = .ok (.if_icmp .ge 25, 3) := by decide +kernel
theorem dX5_keeps_18 : decode cX5_keeps 18 = .ok (.aload_n 0, 1) := by decide +kernel
theorem dX5_keeps_19 : decode cX5_keeps 19 = .ok (.getfield 13, 3) := by decide +kernel
theorem dX5_keeps_22 : decode cX5_keeps 22 = .ok (.iload_n 1, 1) := by decide +kernel
theorem dX5_keeps_23 : decode cX5_keeps 23 = .ok (.aload_n 0, 1) := by decide +kernel
theorem dX5_keeps_24 : decode cX5_keeps 24 = .ok (.getfield 13, 3) := by decide +kernel
theorem dX5_keeps_27 : decode cX5_keeps 27 = .ok (.iload_n 1, 1) := by decide +kernel
theorem dX5_keeps_28 : decode cX5_keeps 28 = .ok (.sipush 598, 3) := by decide +kernel
theorem dX5_keeps_31 : decode cX5_keeps 31 = .ok (.iadd, 1) := by decide +kernel
theorem dX5_keeps_32 : decode cX5_keeps 32 = .ok (.iaload, 1) := by decide +kernel
theorem dX5_keeps_33 : decode cX5_keeps 33 = .ok (.iastore, 1) := by decide +kernel
theorem dX5_keeps_34 : decode cX5_keeps 34 = .ok (.iinc 1 1, 3) := by decide +kernel
theorem dX5_keeps_37 : decode cX5_keeps 37 = .ok (.goto (-26), 3) := by decide +kernel
theorem dX5_keeps_40 : decode cX5_keeps 40 = .ok (.aload_n 0, 1) := by decide +kernel
theorem dX5_keeps_41 : decode cX5_keeps 41 = .ok (.dup, 1) := by decide +kernel
theorem dX5_keeps_42 : decode cX5_keeps 42 = .ok (.getfield 42, 3) := by decide +kernel
theorem dX5_keeps_45 : decode cX5_keeps 45 = .ok (.iconst 1, 1) := by decide +kernel
theorem dX5_keeps_46 : decode cX5_keeps 46 = .ok (.isub, 1) := by decide +kernel
theorem dX5_keeps_47 : decode cX5_keeps 47 = .ok (.putfield 42, 3) := by decide +kernel
theorem dX5_keeps_50 : decode cX5_keeps 50 = .ok (.iconst 0, 1) := by decide +kernel
theorem dX5_keeps_51 : decode cX5_keeps 51 = .ok (.istore_n 1, 1) := by decide +kernel
theorem dX5_keeps_52 : decode cX5_keeps 52 = .ok (.iload_n 1, 1) := by decide +kernel
theorem dX5_keeps_53 : decode cX5_keeps 53 = .ok (.sipush 598, 3) := by decide +kernel
theorem dX5_keeps_56 : decode cX5_keeps 56 = .ok (.if_icmp .ge 30, 3) := by decide +kernel
theorem dX5_keeps_59 : decode cX5_keeps 59 = .ok (.aload_n 0, 1) := by decide +kernel
theorem dX5_keeps_60 : decode cX5_keeps 60 = .ok (.getfield 13, 3) := by decide +kernel
theorem dX5_keeps_63 : decode cX5_keeps 63 = .ok (.sipush 598, 3) := by decide +kernel
theorem dX5_keeps_66 : decode cX5_keeps 66 = .ok (.aload_n 0, 1) := by decide +kernel
theorem dX5_keeps_67 : decode cX5_keeps 67 = .ok (.getfield 42, 3) := by decide +kernel
theorem dX5_keeps_70 : decode cX5_keeps 70 = .ok (.imul, 1) := by decide +kernel
theorem dX5_keeps_71 : decode cX5_keeps 71 = .ok (.iload_n 1, 1) := by decide +kernel
theorem dX5_keeps_72 : decode cX5_keeps 72 = .ok (.iadd, 1) := by decide +kernel
theorem dX5_keeps_73 : decode cX5_keeps 73 = .ok (.aload_n 0, 1) := by decide +kernel
theorem dX5_keeps_74 : decode cX5_keeps 74 = .ok (.getfield 7, 3) := by decide +kernel
theorem dX5_keeps_77 : decode cX5_keeps 77 = .ok (.iload_n 1, 1) := by decide +kernel
theorem dX5_keeps_78 : decode cX5_keeps 78 = .ok (.iaload, 1) := by decide +kernel
theorem dX5_keeps_79 : decode cX5_keeps 79 = .ok (.iastore, 1) := by decide +kernel
theorem dX5_keeps_80 : decode cX5_keeps 80 = .ok (.iinc 1 1, 3) := by decide +kernel
theorem dX5_keeps_83 : decode cX5_keeps 83 = .ok (.goto (-31), 3) := by decide +kernel
theorem dX5_keeps_86 : decode cX5_keeps 86 = .ok (.aload_n 0, 1) := by decide +kernel
theorem dX5_keeps_87 : decode cX5_keeps 87 = .ok (.dup, 1) := by decide +kernel
theorem dX5_keeps_88 : decode cX5_keeps 88 = .ok (.getfield 42, 3) := by decide +kernel
theorem dX5_keeps_91 : decode cX5_keeps 91 = .ok (.iconst 1, 1) := by decide +kernel
theorem dX5_keeps_92 : decode cX5_keeps 92 = .ok (.iadd, 1) := by decide +kernel
theorem dX5_keeps_93 : decode cX5_keeps 93 = .ok (.putfield 42, 3) := by decide +kernel
theorem dX5_keeps_96 : decode cX5_keeps 96 = .ok (.return_, 1) := by decide +kernel
theorem dX5_undo_0 : decode cX5_undo 0 = .ok (.aload_n 0, 1) := by decide +kernel
theorem dX5_undo_1 : decode cX5_undo 1 = .ok (.getfield 42, 3) := by decide +kernel
theorem dX5_undo_4 : decode cX5_undo 4 = .ok (.ifCond .ne 6, 3) := by decide +kernel
theorem dX5_undo_7 : decode cX5_undo 7 = .ok (.bipush (-3), 2) := by decide +kernel
theorem dX5_undo_9 : decode cX5_undo 9 = .ok (.ireturn, 1) := by decide +kernel
theorem dX5_undo_10 : decode cX5_undo 10 = .ok (.aload_n 0, 1) := by decide +kernel
theorem dX5_undo_11 : decode cX5_undo 11 = .ok (.dup, 1) := by decide +kernel
theorem dX5_undo_12 : decode cX5_undo 12 = .ok (.getfield 42, 3) := by decide +kernel
theorem dX5_undo_15 : decode cX5_undo 15 = .ok (.iconst 1, 1) := by decide +kernel
theorem dX5_undo_16 : decode cX5_undo 16 = .ok (.isub, 1) := by decide +kernel
theorem dX5_undo_17 : decode cX5_undo 17 = .ok (.putfield 42, 3) := by decide +kernel
theorem dX5_undo_20 : decode cX5_undo 20 = .ok (.iconst 0, 1) := by decide +kernel
theorem dX5_undo_21 : decode cX5_undo 21 = .ok (.istore_n 1, 1) := by decide +kernel
theorem dX5_undo_22 : decode cX5_undo 22 = .ok (.iload_n 1, 1) := by decide +kernel
theorem dX5_undo_23 : decode cX5_undo 23 = .ok (.sipush 598, 3) := by decide +kernel
theorem dX5_undo_26 : decode cX5_undo 26 = .ok (.if_icmp .ge 30, 3) := by decide +kernel
theorem dX5_undo_29 : decode cX5_undo 29 = .ok (.aload_n 0, 1) := by decide +kernel
theorem dX5_undo_30 : decode cX5_undo 30 = .ok (.getfield 7, 3) := by decide +kernel
theorem dX5_undo_33 : decode cX5_undo 33 = .ok (.iload_n 1, 1) := by decide +kernel
theorem dX5_undo_34 : decode cX5_undo 34 = .ok (.aload_n 0, 1) := by decide +kernel
theorem dX5_undo_35 : decode cX5_undo 35 = .ok (.getfield 13, 3) := by decide +kernel
theorem dX5_undo_38 : decode cX5_undo 38 = .ok (.sipush 598, 3) := by decide +kernel
theorem dX5_undo_41 : decode cX5_undo 41 = .ok (.aload_n 0, 1) := by decide +kernel
theorem dX5_undo_42 : decode cX5_undo 42 = .ok (.getfield 42, 3) := by decide +kernel
theorem dX5_undo_45 : decode cX5_undo 45 = .ok (.imul, 1) := by decide +kernel
theorem dX5_undo_46 : decode cX5_undo 46 = .ok (.iload_n 1, 1) := by decide +kernel
theorem dX5_undo_47 : decode cX5_undo 47 = .ok (.iadd, 1) := by decide +kernel
theorem dX5_undo_48 : decode cX5_undo 48 = .ok (.iaload, 1) := by decide +kernel
theorem dX5_undo_49 : decode cX5_undo 49 = .ok (.iastore, 1) := by decide +kernel
theorem dX5_undo_50 : decode cX5_undo 50 = .ok (.iinc 1 1, 3) := by decide +kernel
theorem dX5_undo_53 : decode cX5_undo 53 = .ok (.goto (-31), 3) := by decide +kernel
theorem dX5_undo_56 : decode cX5_undo 56 = .ok (.aload_n 0, 1) := by decide +kernel
theorem dX5_undo_57 : decode cX5_undo 57 = .ok (.getfield 42, 3) := by decide +kernel
theorem dX5_undo_60 : decode cX5_undo 60 = .ok (.ireturn, 1) := by decide +kernel
theorem dX5_slotOf_0 : decode cX5_slotOf 0 = .ok (.iconst 0, 1) := by decide +kernel
theorem dX5_slotOf_1 : decode cX5_slotOf 1 = .ok (.istore_n 2, 1) := by decide +kernel
theorem dX5_slotOf_2 : decode cX5_slotOf 2 = .ok (.iload_n 2, 1) := by decide +kernel
theorem dX5_slotOf_3 : decode cX5_slotOf 3 = .ok (.aload_n 0, 1) := by decide +kernel
theorem dX5_slotOf_4 : decode cX5_slotOf 4 = .ok (.getfield 7, 3) := by decide +kernel
theorem dX5_slotOf_7 : decode cX5_slotOf 7 = .ok (.sipush 580, 3) := by decide +kernel
theorem dX5_slotOf_10 : decode cX5_slotOf 10 = .ok (.iaload, 1) := by decide +kernel
theorem dX5_slotOf_11 : decode cX5_slotOf 11 = .ok (.if_icmp .ge 21, 3) := by decide +kernel
theorem dX5_slotOf_14 : decode cX5_slotOf 14 = .ok (.aload_n 0, 1) := by decide +kernel
theorem dX5_slotOf_15 : decode cX5_slotOf 15 = .ok (.iload_n 2, 1) := by decide +kernel
theorem dX5_slotOf_16 : decode cX5_slotOf 16 = .ok (.iconst 0, 1) := by decide +kernel
theorem dX5_slotOf_17 : decode cX5_slotOf 17 = .ok (.invokevirtual 38, 3) := by decide +kernel
theorem dX5_slotOf_20 : decode cX5_slotOf 20 = .ok (.iload_n 1, 1) := by decide +kernel
theorem dX5_slotOf_21 : decode cX5_slotOf 21 = .ok (.if_icmp .ne 5, 3) := by decide +kernel
theorem dX5_slotOf_24 : decode cX5_slotOf 24 = .ok (.iload_n 2, 1) := by decide +kernel
theorem dX5_slotOf_25 : decode cX5_slotOf 25 = .ok (.ireturn, 1) := by decide +kernel
theorem dX5_slotOf_26 : decode cX5_slotOf 26 = .ok (.iinc 2 1, 3) := by decide +kernel
theorem dX5_slotOf_29 : decode cX5_slotOf 29 = .ok (.goto (-27), 3) := by decide +kernel
theorem dX5_slotOf_32 : decode cX5_slotOf 32 = .ok (.iconst (-1), 1) := by decide +kernel
theorem dX5_slotOf_33 : decode cX5_slotOf 33 = .ok (.ireturn, 1) := by decide +kernel
theorem dX5_raises_0 : decode cX5_raises 0 = .ok (.aload_n 0, 1) := by decide +kernel
theorem dX5_raises_1 : decode cX5_raises 1 = .ok (.getfield 46, 3) := by decide +kernel
theorem dX5_raises_4 : decode cX5_raises 4 = .ok (.iconst 1, 1) := by decide +kernel
theorem dX5_raises_5 : decode cX5_raises 5 = .ok (.if_icmp .ne 49, 3) := by decide +kernel
theorem dX5_raises_8 : decode cX5_raises 8 = .ok (.aload_n 0, 1) := by decide +kernel
theorem dX5_raises_9 : decode cX5_raises 9 = .ok (.getfield 16, 3) := by decide +kernel
theorem dX5_raises_12 : decode cX5_raises 12 = .ok (.bipush 8, 2) := by decide +kernel
theorem dX5_raises_14 : decode cX5_raises 14 = .ok (.aload_n 0, 1) := by decide +kernel
theorem dX5_raises_15 : decode cX5_raises 15 = .ok (.getfield 16, 3) := by decide +kernel
theorem dX5_raises_18 : decode cX5_raises 18 = .ok (.iconst 0, 1) := by decide +kernel
theorem dX5_raises_19 : decode cX5_raises 19 = .ok (.iaload, 1) := by decide +kernel
theorem dX5_raises_20 : decode cX5_raises 20 = .ok (.aload_n 0, 1) := by decide +kernel
theorem dX5_raises_21 : decode cX5_raises 21 = .ok (.getfield 16, 3) := by decide +kernel
theorem dX5_raises_24 : decode cX5_raises 24 = .ok (.iconst 1, 1) := by decide +kernel
theorem dX5_raises_25 : decode cX5_raises 25 = .ok (.iaload, 1) := by decide +kernel
theorem dX5_raises_26 : decode cX5_raises 26 = .ok (.iadd, 1) := by decide +kernel
theorem dX5_raises_27 : decode cX5_raises 27 = .ok (.aload_n 0, 1) := by decide +kernel
theorem dX5_raises_28 : decode cX5_raises 28 = .ok (.getfield 16, 3) := by decide +kernel
theorem dX5_raises_31 : decode cX5_raises 31 = .ok (.iconst 2, 1) := by decide +kernel
theorem dX5_raises_32 : decode cX5_raises 32 = .ok (.iaload, 1) := by decide +kernel
theorem dX5_raises_33 : decode cX5_raises 33 = .ok (.iadd, 1) := by decide +kernel
theorem dX5_raises_34 : decode cX5_raises 34 = .ok (.iconst 3, 1) := by decide +kernel
theorem dX5_raises_35 : decode cX5_raises 35 = .ok (.idiv, 1) := by decide +kernel
theorem dX5_raises_36 : decode cX5_raises 36 = .ok (.iastore, 1) := by decide +kernel
theorem dX5_raises_37 : decode cX5_raises 37 = .ok (.aload_n 0, 1) := by decide +kernel
theorem dX5_raises_38 : decode cX5_raises 38 = .ok (.getfield 16, 3) := by decide +kernel
theorem dX5_raises_41 : decode cX5_raises 41 = .ok (.bipush 9, 2) := by decide +kernel
theorem dX5_raises_43 : decode cX5_raises 43 = .ok (.aload_n 0, 1) := by decide +kernel
theorem dX5_raises_44 : decode cX5_raises 44 = .ok (.getfield 16, 3) := by decide +kernel
theorem dX5_raises_47 : decode cX5_raises 47 = .ok (.bipush 7, 2) := by decide +kernel
theorem dX5_raises_49 : decode cX5_raises 49 = .ok (.iaload, 1) := by decide +kernel
theorem dX5_raises_50 : decode cX5_raises 50 = .ok (.iastore, 1) := by decide +kernel
theorem dX5_raises_51 : decode cX5_raises 51 = .ok (.goto 73, 3) := by decide +kernel
theorem dX5_raises_54 : decode cX5_raises 54 = .ok (.aload_n 0, 1) := by decide +kernel
theorem dX5_raises_55 : decode cX5_raises 55 = .ok (.getfield 16, 3) := by decide +kernel
theorem dX5_raises_58 : decode cX5_raises 58 = .ok (.iconst 1, 1) := by decide +kernel
theorem dX5_raises_59 : decode cX5_raises 59 = .ok (.iaload, 1) := by decide +kernel
theorem dX5_raises_60 : decode cX5_raises 60 = .ok (.istore_n 1, 1) := by decide +kernel
theorem dX5_raises_61 : decode cX5_raises 61 = .ok (.aload_n 0, 1) := by decide +kernel
theorem dX5_raises_62 : decode cX5_raises 62 = .ok (.getfield 16, 3) := by decide +kernel
theorem dX5_raises_65 : decode cX5_raises 65 = .ok (.iconst 1, 1) := by decide +kernel
theorem dX5_raises_66 : decode cX5_raises 66 = .ok (.aload_n 0, 1) := by decide +kernel
theorem dX5_raises_67 : decode cX5_raises 67 = .ok (.getfield 16, 3) := by decide +kernel
theorem dX5_raises_70 : decode cX5_raises 70 = .ok (.iconst 4, 1) := by decide +kernel
theorem dX5_raises_71 : decode cX5_raises 71 = .ok (.iaload, 1) := by decide +kernel
theorem dX5_raises_72 : decode cX5_raises 72 = .ok (.iastore, 1) := by decide +kernel
theorem dX5_raises_73 : decode cX5_raises 73 = .ok (.aload_n 0, 1) := by decide +kernel
theorem dX5_raises_74 : decode cX5_raises 74 = .ok (.getfield 16, 3) := by decide +kernel
theorem dX5_raises_77 : decode cX5_raises 77 = .ok (.iconst 4, 1) := by decide +kernel
theorem dX5_raises_78 : decode cX5_raises 78 = .ok (.iload_n 1, 1) := by decide +kernel
theorem dX5_raises_79 : decode cX5_raises 79 = .ok (.iastore, 1) := by decide +kernel
theorem dX5_raises_80 : decode cX5_raises 80 = .ok (.aload_n 0, 1) := by decide +kernel
theorem dX5_raises_81 : decode cX5_raises 81 = .ok (.getfield 16, 3) := by decide +kernel
theorem dX5_raises_84 : decode cX5_raises 84 = .ok (.bipush 10, 2) := by decide +kernel
theorem dX5_raises_86 : decode cX5_raises 86 = .ok (.iconst 2, 1) := by decide +kernel
theorem dX5_raises_87 : decode cX5_raises 87 = .ok (.aload_n 0, 1) := by decide +kernel
theorem dX5_raises_88 : decode cX5_raises 88 = .ok (.getfield 16, 3) := by decide +kernel
theorem dX5_raises_91 : decode cX5_raises 91 = .ok (.bipush 9, 2) := by decide +kernel
theorem dX5_raises_93 : decode cX5_raises 93 = .ok (.iaload, 1) := by decide +kernel
theorem dX5_raises_94 : decode cX5_raises 94 = .ok (.imul, 1) := by decide +kernel
theorem dX5_raises_95 : decode cX5_raises 95 = .ok (.bipush 99, 2) := by decide +kernel
theorem dX5_raises_97 : decode cX5_raises 97 = .ok (.if_icmp .le 8, 3) := by decide +kernel
theorem dX5_raises_100 : decode cX5_raises 100 = .ok (.bipush 99, 2) := by decide +kernel
theorem dX5_raises_102 : decode cX5_raises 102 = .ok (.goto 12, 3) := by decide +kernel
theorem dX5_raises_105 : decode cX5_raises 105 = .ok (.iconst 2, 1) := by decide +kernel
theorem dX5_raises_106 : decode cX5_raises 106 = .ok (.aload_n 0, 1) := by decide +kernel
theorem dX5_raises_107 : decode cX5_raises 107 = .ok (.getfield 16, 3) := by decide +kernel
theorem dX5_raises_110 : decode cX5_raises 110 = .ok (.bipush 9, 2) := by decide +kernel
theorem dX5_raises_112 : decode cX5_raises 112 = .ok (.iaload, 1) := by decide +kernel
theorem dX5_raises_113 : decode cX5_raises 113 = .ok (.imul, 1) := by decide +kernel
theorem dX5_raises_114 : decode cX5_raises 114 = .ok (.iastore, 1) := by decide +kernel
theorem dX5_raises_115 : decode cX5_raises 115 = .ok (.aload_n 0, 1) := by decide +kernel
theorem dX5_raises_116 : decode cX5_raises 116 = .ok (.getfield 16, 3) := by decide +kernel
theorem dX5_raises_119 : decode cX5_raises 119 = .ok (.bipush 11, 2) := by decide +kernel
theorem dX5_raises_121 : decode cX5_raises 121 = .ok (.bipush 50, 2) := by decide +kernel
theorem dX5_raises_123 : decode cX5_raises 123 = .ok (.iastore, 1) := by decide +kernel
theorem dX5_raises_124 : decode cX5_raises 124 = .ok (.aload_n 0, 1) := by decide +kernel
theorem dX5_raises_125 : decode cX5_raises 125 = .ok (.dup, 1) := by decide +kernel
theorem dX5_raises_126 : decode cX5_raises 126 = .ok (.getfield 46, 3) := by decide +kernel
theorem dX5_raises_129 : decode cX5_raises 129 = .ok (.iconst 1, 1) := by decide +kernel
theorem dX5_raises_130 : decode cX5_raises 130 = .ok (.iadd, 1) := by decide +kernel
theorem dX5_raises_131 : decode cX5_raises 131 = .ok (.putfield 46, 3) := by decide +kernel
theorem dX5_raises_134 : decode cX5_raises 134 = .ok (.return_, 1) := by decide +kernel
theorem dX5_raisesTo_0 : decode cX5_raisesTo 0 = .ok (.aload_n 0, 1) := by decide +kernel
theorem dX5_raisesTo_1 : decode cX5_raisesTo 1 = .ok (.getfield 46, 3) := by decide +kernel
theorem dX5_raisesTo_4 : decode cX5_raisesTo 4 = .ok (.iload_n 1, 1) := by decide +kernel
theorem dX5_raisesTo_5 : decode cX5_raisesTo 5 = .ok (.if_icmp .ge 10, 3) := by decide +kernel
theorem dX5_raisesTo_8 : decode cX5_raisesTo 8 = .ok (.aload_n 0, 1) := by decide +kernel
theorem dX5_raisesTo_9 : decode cX5_raisesTo 9 = .ok (.invokevirtual 49, 3) := by decide +kernel
theorem dX5_raisesTo_12 : decode cX5_raisesTo 12 = .ok (.goto (-12), 3) := by decide +kernel
theorem dX5_raisesTo_15 : decode cX5_raisesTo 15 = .ok (.return_, 1) := by decide +kernel
theorem dX5_sumNow_0 : decode cX5_sumNow 0 = .ok (.bipush 7, 2) := by decide +kernel
theorem dX5_sumNow_2 : decode cX5_sumNow 2 = .ok (.istore_n 1, 1) := by decide +kernel
theorem dX5_sumNow_3 : decode cX5_sumNow 3 = .ok (.iconst 0, 1) := by decide +kernel
theorem dX5_sumNow_4 : decode cX5_sumNow 4 = .ok (.istore_n 2, 1) := by decide +kernel
theorem dX5_sumNow_5 : decode cX5_sumNow 5 = .ok (.iload_n 2, 1) := by decide +kernel
theorem dX5_sumNow_6 : decode cX5_sumNow 6 = .ok (.aload_n 0, 1) := by decide +kernel
theorem dX5_sumNow_7 : decode cX5_sumNow 7 = .ok (.getfield 46, 3) := by decide +kernel
theorem dX5_sumNow_10 : decode cX5_sumNow 10 = .ok (.invokestatic 52, 3) := by decide +kernel
theorem dX5_sumNow_13 : decode cX5_sumNow 13 = .ok (.if_icmp .ge 25, 3) := by decide +kernel
theorem dX5_sumNow_16 : decode cX5_sumNow 16 = .ok (.bipush 31, 2) := by decide +kernel
theorem dX5_sumNow_18 : decode cX5_sumNow 18 = .ok (.iload_n 1, 1) := by decide +kernel
theorem dX5_sumNow_19 : decode cX5_sumNow 19 = .ok (.imul, 1) := by decide +kernel
theorem dX5_sumNow_20 : decode cX5_sumNow 20 = .ok (.aload_n 0, 1) := by decide +kernel
theorem dX5_sumNow_21 : decode cX5_sumNow 21 = .ok (.getfield 16, 3) := by decide +kernel
theorem dX5_sumNow_24 : decode cX5_sumNow 24 = .ok (.iload_n 2, 1) := by decide +kernel
theorem dX5_sumNow_25 : decode cX5_sumNow 25 = .ok (.iaload, 1) := by decide +kernel
theorem dX5_sumNow_26 : decode cX5_sumNow 26 = .ok (.iadd, 1) := by decide +kernel
theorem dX5_sumNow_27 : decode cX5_sumNow 27 = .ok (.sipush 9973, 3) := by decide +kernel
theorem dX5_sumNow_30 : decode cX5_sumNow 30 = .ok (.irem, 1) := by decide +kernel
theorem dX5_sumNow_31 : decode cX5_sumNow 31 = .ok (.istore_n 1, 1) := by decide +kernel
theorem dX5_sumNow_32 : decode cX5_sumNow 32 = .ok (.iinc 2 1, 3) := by decide +kernel
theorem dX5_sumNow_35 : decode cX5_sumNow 35 = .ok (.goto (-30), 3) := by decide +kernel
theorem dX5_sumNow_38 : decode cX5_sumNow 38 = .ok (.iload_n 1, 1) := by decide +kernel
theorem dX5_sumNow_39 : decode cX5_sumNow 39 = .ok (.ireturn, 1) := by decide +kernel
theorem dX5_takesGame_0 : decode cX5_takesGame 0 = .ok (.aload_n 0, 1) := by decide +kernel
theorem dX5_takesGame_1 : decode cX5_takesGame 1 = .ok (.aload_n 0, 1) := by decide +kernel
theorem dX5_takesGame_2 : decode cX5_takesGame 2 = .ok (.getfield 7, 3) := by decide +kernel
theorem dX5_takesGame_5 : decode cX5_takesGame 5 = .ok (.sipush 582, 3) := by decide +kernel
theorem dX5_takesGame_8 : decode cX5_takesGame 8 = .ok (.iaload, 1) := by decide +kernel
theorem dX5_takesGame_9 : decode cX5_takesGame 9 = .ok (.putfield 46, 3) := by decide +kernel
theorem dX5_takesGame_12 : decode cX5_takesGame 12 = .ok (.iconst 0, 1) := by decide +kernel
theorem dX5_takesGame_13 : decode cX5_takesGame 13 = .ok (.istore_n 1, 1) := by decide +kernel
theorem dX5_takesGame_14 : decode cX5_takesGame 14 = .ok (.iload_n 1, 1) := by decide +kernel
theorem dX5_takesGame_15 : decode cX5_takesGame 15 = .ok (.bipush 12, 2) := by decide +kernel
theorem dX5_takesGame_17 : decode cX5_takesGame 17 = .ok (.if_icmp .ge 25, 3) := by decide +kernel
theorem dX5_takesGame_20 : decode cX5_takesGame 20 = .ok (.aload_n 0, 1) := by decide +kernel
theorem dX5_takesGame_21 : decode cX5_takesGame 21 = .ok (.getfield 16, 3) := by decide +kernel
theorem dX5_takesGame_24 : decode cX5_takesGame 24 = .ok (.iload_n 1, 1) := by decide +kernel
theorem dX5_takesGame_25 : decode cX5_takesGame 25 = .ok (.aload_n 0, 1) := by decide +kernel
theorem dX5_takesGame_26 : decode cX5_takesGame 26 = .ok (.getfield 7, 3) := by decide +kernel
theorem dX5_takesGame_29 : decode cX5_takesGame 29 = .ok (.sipush 583, 3) := by decide +kernel
theorem dX5_takesGame_32 : decode cX5_takesGame 32 = .ok (.iload_n 1, 1) := by decide +kernel
theorem dX5_takesGame_33 : decode cX5_takesGame 33 = .ok (.iadd, 1) := by decide +kernel
theorem dX5_takesGame_34 : decode cX5_takesGame 34 = .ok (.iaload, 1) := by decide +kernel
theorem dX5_takesGame_35 : decode cX5_takesGame 35 = .ok (.iastore, 1) := by decide +kernel
theorem dX5_takesGame_36 : decode cX5_takesGame 36 = .ok (.iinc 1 1, 3) := by decide +kernel
theorem dX5_takesGame_39 : decode cX5_takesGame 39 = .ok (.goto (-25), 3) := by decide +kernel
theorem dX5_takesGame_42 : decode cX5_takesGame 42 = .ok (.return_, 1) := by decide +kernel
theorem dX5_givesGame_0 : decode cX5_givesGame 0 = .ok (.aload_n 0, 1) := by decide +kernel
theorem dX5_givesGame_1 : decode cX5_givesGame 1 = .ok (.getfield 7, 3) := by decide +kernel
theorem dX5_givesGame_4 : decode cX5_givesGame 4 = .ok (.sipush 582, 3) := by decide +kernel
theorem dX5_givesGame_7 : decode cX5_givesGame 7 = .ok (.aload_n 0, 1) := by decide +kernel
theorem dX5_givesGame_8 : decode cX5_givesGame 8 = .ok (.getfield 46, 3) := by decide +kernel
theorem dX5_givesGame_11 : decode cX5_givesGame 11 = .ok (.iastore, 1) := by decide +kernel
theorem dX5_givesGame_12 : decode cX5_givesGame 12 = .ok (.iconst 0, 1) := by decide +kernel
theorem dX5_givesGame_13 : decode cX5_givesGame 13 = .ok (.istore_n 1, 1) := by decide +kernel
theorem dX5_givesGame_14 : decode cX5_givesGame 14 = .ok (.iload_n 1, 1) := by decide +kernel
theorem dX5_givesGame_15 : decode cX5_givesGame 15 = .ok (.bipush 12, 2) := by decide +kernel
theorem dX5_givesGame_17 : decode cX5_givesGame 17 = .ok (.if_icmp .ge 40, 3) := by decide +kernel
theorem dX5_givesGame_20 : decode cX5_givesGame 20 = .ok (.aload_n 0, 1) := by decide +kernel
theorem dX5_givesGame_21 : decode cX5_givesGame 21 = .ok (.getfield 7, 3) := by decide +kernel
theorem dX5_givesGame_24 : decode cX5_givesGame 24 = .ok (.sipush 583, 3) := by decide +kernel
theorem dX5_givesGame_27 : decode cX5_givesGame 27 = .ok (.iload_n 1, 1) := by decide +kernel
theorem dX5_givesGame_28 : decode cX5_givesGame 28 = .ok (.iadd, 1) := by decide +kernel
theorem dX5_givesGame_29 : decode cX5_givesGame 29 = .ok (.iload_n 1, 1) := by decide +kernel
theorem dX5_givesGame_30 : decode cX5_givesGame 30 = .ok (.aload_n 0, 1) := by decide +kernel
theorem dX5_givesGame_31 : decode cX5_givesGame 31 = .ok (.getfield 46, 3) := by decide +kernel
theorem dX5_givesGame_34 : decode cX5_givesGame 34 = .ok (.invokestatic 52, 3) := by decide +kernel
theorem dX5_givesGame_37 : decode cX5_givesGame 37 = .ok (.if_icmp .ge 12, 3) := by decide +kernel
theorem dX5_givesGame_40 : decode cX5_givesGame 40 = .ok (.aload_n 0, 1) := by decide +kernel
theorem dX5_givesGame_41 : decode cX5_givesGame 41 = .ok (.getfield 16, 3) := by decide +kernel
theorem dX5_givesGame_44 : decode cX5_givesGame 44 = .ok (.iload_n 1, 1) := by decide +kernel
theorem dX5_givesGame_45 : decode cX5_givesGame 45 = .ok (.iaload, 1) := by decide +kernel
theorem dX5_givesGame_46 : decode cX5_givesGame 46 = .ok (.goto 4, 3) := by decide +kernel
theorem dX5_givesGame_49 : decode cX5_givesGame 49 = .ok (.iconst 0, 1) := by decide +kernel
theorem dX5_givesGame_50 : decode cX5_givesGame 50 = .ok (.iastore, 1) := by decide +kernel
theorem dX5_givesGame_51 : decode cX5_givesGame 51 = .ok (.iinc 1 1, 3) := by decide +kernel
theorem dX5_givesGame_54 : decode cX5_givesGame 54 = .ok (.goto (-40), 3) := by decide +kernel
theorem dX5_givesGame_57 : decode cX5_givesGame 57 = .ok (.return_, 1) := by decide +kernel
theorem dX5_climbs_0 : decode cX5_climbs 0 = .ok (.aload_n 0, 1) := by decide +kernel
theorem dX5_climbs_1 : decode cX5_climbs 1 = .ok (.iconst 0, 1) := by decide +kernel
theorem dX5_climbs_2 : decode cX5_climbs 2 = .ok (.putfield 56, 3) := by decide +kernel
theorem dX5_climbs_5 : decode cX5_climbs 5 = .ok (.iload_n 1, 1) := by decide +kernel
theorem dX5_climbs_6 : decode cX5_climbs 6 = .ok (.istore_n 2, 1) := by decide +kernel
theorem dX5_climbs_7 : decode cX5_climbs 7 = .ok (.iload_n 2, 1) := by decide +kernel
theorem dX5_climbs_8 : decode cX5_climbs 8 = .ok (.iconst (-1), 1) := by decide +kernel
theorem dX5_climbs_9 : decode cX5_climbs 9 = .ok (.if_icmp .eq 48, 3) := by decide +kernel
theorem dX5_climbs_12 : decode cX5_climbs 12 = .ok (.aload_n 0, 1) := by decide +kernel
theorem dX5_climbs_13 : decode cX5_climbs 13 = .ok (.getfield 19, 3) := by decide +kernel
theorem dX5_climbs_16 : decode cX5_climbs 16 = .ok (.aload_n 0, 1) := by decide +kernel
theorem dX5_climbs_17 : decode cX5_climbs 17 = .ok (.getfield 56, 3) := by decide +kernel
theorem dX5_climbs_20 : decode cX5_climbs 20 = .ok (.iload_n 2, 1) := by decide +kernel
theorem dX5_climbs_21 : decode cX5_climbs 21 = .ok (.iastore, 1) := by decide +kernel
theorem dX5_climbs_22 : decode cX5_climbs 22 = .ok (.aload_n 0, 1) := by decide +kernel
theorem dX5_climbs_23 : decode cX5_climbs 23 = .ok (.dup, 1) := by decide +kernel
theorem dX5_climbs_24 : decode cX5_climbs 24 = .ok (.getfield 56, 3) := by decide +kernel
theorem dX5_climbs_27 : decode cX5_climbs 27 = .ok (.iconst 1, 1) := by decide +kernel
theorem dX5_climbs_28 : decode cX5_climbs 28 = .ok (.iadd, 1) := by decide +kernel
theorem dX5_climbs_29 : decode cX5_climbs 29 = .ok (.putfield 56, 3) := by decide +kernel
theorem dX5_climbs_32 : decode cX5_climbs 32 = .ok (.aload_n 0, 1) := by decide +kernel
theorem dX5_climbs_33 : decode cX5_climbs 33 = .ok (.iload_n 2, 1) := by decide +kernel
theorem dX5_climbs_34 : decode cX5_climbs 34 = .ok (.invokevirtual 59, 3) := by decide +kernel
theorem dX5_climbs_37 : decode cX5_climbs 37 = .ok (.istore_n 3, 1) := by decide +kernel
theorem dX5_climbs_38 : decode cX5_climbs 38 = .ok (.iload_n 3, 1) := by decide +kernel
theorem dX5_climbs_39 : decode cX5_climbs 39 = .ok (.iconst (-1), 1) := by decide +kernel
theorem dX5_climbs_40 : decode cX5_climbs 40 = .ok (.if_icmp .ne 7, 3) := by decide +kernel
theorem dX5_climbs_43 : decode cX5_climbs 43 = .ok (.iconst (-1), 1) := by decide +kernel
theorem dX5_climbs_44 : decode cX5_climbs 44 = .ok (.goto 9, 3) := by decide +kernel
theorem dX5_climbs_47 : decode cX5_climbs 47 = .ok (.aload_n 0, 1) := by decide +kernel
theorem dX5_climbs_48 : decode cX5_climbs 48 = .ok (.iload_n 3, 1) := by decide +kernel
theorem dX5_climbs_49 : decode cX5_climbs 49 = .ok (.iconst 3, 1) := by decide +kernel
theorem dX5_climbs_50 : decode cX5_climbs 50 = .ok (.invokevirtual 38, 3) := by decide +kernel
theorem dX5_climbs_53 : decode cX5_climbs 53 = .ok (.istore_n 2, 1) := by decide +kernel
theorem dX5_climbs_54 : decode cX5_climbs 54 = .ok (.goto (-47), 3) := by decide +kernel
theorem dX5_climbs_57 : decode cX5_climbs 57 = .ok (.return_, 1) := by decide +kernel
theorem dX5_reads_0 : decode cX5_reads 0 = .ok (.aload_n 0, 1) := by decide +kernel
theorem dX5_reads_1 : decode cX5_reads 1 = .ok (.iload_n 1, 1) := by decide +kernel
theorem dX5_reads_2 : decode cX5_reads 2 = .ok (.invokevirtual 62, 3) := by decide +kernel
theorem dX5_reads_5 : decode cX5_reads 5 = .ok (.aload_n 0, 1) := by decide +kernel
theorem dX5_reads_6 : decode cX5_reads 6 = .ok (.getfield 56, 3) := by decide +kernel
theorem dX5_reads_9 : decode cX5_reads 9 = .ok (.iconst 1, 1) := by decide +kernel
theorem dX5_reads_10 : decode cX5_reads 10 = .ok (.isub, 1) := by decide +kernel
theorem dX5_reads_11 : decode cX5_reads 11 = .ok (.istore_n 2, 1) := by decide +kernel
theorem dX5_reads_12 : decode cX5_reads 12 = .ok (.iload_n 2, 1) := by decide +kernel
theorem dX5_reads_13 : decode cX5_reads 13 = .ok (.ifCond .lt 163, 3) := by decide +kernel
theorem dX5_reads_16 : decode cX5_reads 16 = .ok (.aload_n 0, 1) := by decide +kernel
theorem dX5_reads_17 : decode cX5_reads 17 = .ok (.aload_n 0, 1) := by decide +kernel
theorem dX5_reads_18 : decode cX5_reads 18 = .ok (.getfield 19, 3) := by decide +kernel
theorem dX5_reads_21 : decode cX5_reads 21 = .ok (.iload_n 2, 1) := by decide +kernel
theorem dX5_reads_22 : decode cX5_reads 22 = .ok (.iaload, 1) := by decide +kernel
theorem dX5_reads_23 : decode cX5_reads 23 = .ok (.invokevirtual 59, 3) := by decide +kernel
theorem dX5_reads_26 : decode cX5_reads 26 = .ok (.istore_n 3, 1) := by decide +kernel
theorem dX5_reads_27 : decode cX5_reads 27 = .ok (.iload_n 3, 1) := by decide +kernel
theorem dX5_reads_28 : decode cX5_reads 28 = .ok (.iconst (-1), 1) := by decide +kernel
theorem dX5_reads_29 : decode cX5_reads 29 = .ok (.if_icmp .ne 13, 3) := by decide +kernel
theorem dX5_reads_32 : decode cX5_reads 32 = .ok (.aload_n 0, 1) := by decide +kernel
theorem dX5_reads_33 : decode cX5_reads 33 = .ok (.getfield 22, 3) := by decide +kernel
theorem dX5_reads_36 : decode cX5_reads 36 = .ok (.iload_n 2, 1) := by decide +kernel
theorem dX5_reads_37 : decode cX5_reads 37 = .ok (.iconst 0, 1) := by decide +kernel
theorem dX5_reads_38 : decode cX5_reads 38 = .ok (.iastore, 1) := by decide +kernel
theorem dX5_reads_39 : decode cX5_reads 39 = .ok (.goto 131, 3) := by decide +kernel
theorem dX5_reads_42 : decode cX5_reads 42 = .ok (.iload_n 2, 1) := by decide +kernel
theorem dX5_reads_43 : decode cX5_reads 43 = .ok (.aload_n 0, 1) := by decide +kernel
theorem dX5_reads_44 : decode cX5_reads 44 = .ok (.getfield 56, 3) := by decide +kernel
theorem dX5_reads_47 : decode cX5_reads 47 = .ok (.iconst 1, 1) := by decide +kernel
theorem dX5_reads_48 : decode cX5_reads 48 = .ok (.isub, 1) := by decide +kernel
theorem dX5_reads_49 : decode cX5_reads 49 = .ok (.if_icmp .ge 25, 3) := by decide +kernel
theorem dX5_reads_52 : decode cX5_reads 52 = .ok (.aload_n 0, 1) := by decide +kernel
theorem dX5_reads_53 : decode cX5_reads 53 = .ok (.getfield 22, 3) := by decide +kernel
theorem dX5_reads_56 : decode cX5_reads 56 = .ok (.iload_n 2, 1) := by decide +kernel
theorem dX5_reads_57 : decode cX5_reads 57 = .ok (.iconst 1, 1) := by decide +kernel
theorem dX5_reads_58 : decode cX5_reads 58 = .ok (.iadd, 1) := by decide +kernel
theorem dX5_reads_59 : decode cX5_reads 59 = .ok (.iaload, 1) := by decide +kernel
theorem dX5_reads_60 : decode cX5_reads 60 = .ok (.iconst (-1), 1) := by decide +kernel
theorem dX5_reads_61 : decode cX5_reads 61 = .ok (.if_icmp .eq 13, 3) := by decide +kernel
theorem dX5_reads_64 : decode cX5_reads 64 = .ok (.aload_n 0, 1) := by decide +kernel
theorem dX5_reads_65 : decode cX5_reads 65 = .ok (.getfield 22, 3) := by decide +kernel
theorem dX5_reads_68 : decode cX5_reads 68 = .ok (.iload_n 2, 1) := by decide +kernel
theorem dX5_reads_69 : decode cX5_reads 69 = .ok (.iconst 2, 1) := by decide +kernel
theorem dX5_reads_70 : decode cX5_reads 70 = .ok (.iastore, 1) := by decide +kernel
theorem dX5_reads_71 : decode cX5_reads 71 = .ok (.goto 99, 3) := by decide +kernel
theorem dX5_reads_74 : decode cX5_reads 74 = .ok (.aload_n 0, 1) := by decide +kernel
theorem dX5_reads_75 : decode cX5_reads 75 = .ok (.iload_n 3, 1) := by decide +kernel
theorem dX5_reads_76 : decode cX5_reads 76 = .ok (.invokevirtual 66, 3) := by decide +kernel
theorem dX5_reads_79 : decode cX5_reads 79 = .ok (.ifCond .eq 13, 3) := by decide +kernel
theorem dX5_reads_82 : decode cX5_reads 82 = .ok (.aload_n 0, 1) := by decide +kernel
theorem dX5_reads_83 : decode cX5_reads 83 = .ok (.aload_n 0, 1) := by decide +kernel
theorem dX5_reads_84 : decode cX5_reads 84 = .ok (.iload_n 3, 1) := by decide +kernel
theorem dX5_reads_85 : decode cX5_reads 85 = .ok (.iconst 1, 1) := by decide +kernel
theorem dX5_reads_86 : decode cX5_reads 86 = .ok (.invokevirtual 38, 3) := by decide +kernel
theorem dX5_reads_89 : decode cX5_reads 89 = .ok (.putfield 46, 3) := by decide +kernel
theorem dX5_reads_92 : decode cX5_reads 92 = .ok (.aload_n 0, 1) := by decide +kernel
theorem dX5_reads_93 : decode cX5_reads 93 = .ok (.aload_n 0, 1) := by decide +kernel
theorem dX5_reads_94 : decode cX5_reads 94 = .ok (.iload_n 3, 1) := by decide +kernel
theorem dX5_reads_95 : decode cX5_reads 95 = .ok (.iconst 1, 1) := by decide +kernel
theorem dX5_reads_96 : decode cX5_reads 96 = .ok (.invokevirtual 38, 3) := by decide +kernel
theorem dX5_reads_99 : decode cX5_reads 99 = .ok (.invokevirtual 70, 3) := by decide +kernel
theorem dX5_reads_102 : decode cX5_reads 102 = .ok (.iconst 0, 1) := by decide +kernel
theorem dX5_reads_103 : decode cX5_reads 103 = .ok (.istore 4, 2) := by decide +kernel
theorem dX5_reads_105 : decode cX5_reads 105 = .ok (.iload 4, 2) := by decide +kernel
theorem dX5_reads_107 : decode cX5_reads 107 = .ok (.aload_n 0, 1) := by decide +kernel
theorem dX5_reads_108 : decode cX5_reads 108 = .ok (.iload_n 3, 1) := by decide +kernel
theorem dX5_reads_109 : decode cX5_reads 109 = .ok (.iconst 4, 1) := by decide +kernel
theorem dX5_reads_110 : decode cX5_reads 110 = .ok (.invokevirtual 38, 3) := by decide +kernel
theorem dX5_reads_113 : decode cX5_reads 113 = .ok (.if_icmp .ge 33, 3) := by decide +kernel
theorem dX5_reads_116 : decode cX5_reads 116 = .ok (.aload_n 0, 1) := by decide +kernel
theorem dX5_reads_117 : decode cX5_reads 117 = .ok (.getfield 16, 3) := by decide +kernel
theorem dX5_reads_120 : decode cX5_reads 120 = .ok (.aload_n 0, 1) := by decide +kernel
theorem dX5_reads_121 : decode cX5_reads 121 = .ok (.iload_n 3, 1) := by decide +kernel
theorem dX5_reads_122 : decode cX5_reads 122 = .ok (.iconst 5, 1) := by decide +kernel
theorem dX5_reads_123 : decode cX5_reads 123 = .ok (.iload 4, 2) := by decide +kernel
theorem dX5_reads_125 : decode cX5_reads 125 = .ok (.iadd, 1) := by decide +kernel
theorem dX5_reads_126 : decode cX5_reads 126 = .ok (.invokevirtual 38, 3) := by decide +kernel
theorem dX5_reads_129 : decode cX5_reads 129 = .ok (.aload_n 0, 1) := by decide +kernel
theorem dX5_reads_130 : decode cX5_reads 130 = .ok (.iload_n 3, 1) := by decide +kernel
theorem dX5_reads_131 : decode cX5_reads 131 = .ok (.bipush 17, 2) := by decide +kernel
theorem dX5_reads_133 : decode cX5_reads 133 = .ok (.iload 4, 2) := by decide +kernel
theorem dX5_reads_135 : decode cX5_reads 135 = .ok (.iadd, 1) := by decide +kernel
theorem dX5_reads_136 : decode cX5_reads 136 = .ok (.invokevirtual 38, 3) := by decide +kernel
theorem dX5_reads_139 : decode cX5_reads 139 = .ok (.iastore, 1) := by decide +kernel
theorem dX5_reads_140 : decode cX5_reads 140 = .ok (.iinc 4 1, 3) := by decide +kernel
theorem dX5_reads_143 : decode cX5_reads 143 = .ok (.goto (-38), 3) := by decide +kernel
theorem dX5_reads_146 : decode cX5_reads 146 = .ok (.aload_n 0, 1) := by decide +kernel
theorem dX5_reads_147 : decode cX5_reads 147 = .ok (.getfield 22, 3) := by decide +kernel
theorem dX5_reads_150 : decode cX5_reads 150 = .ok (.iload_n 2, 1) := by decide +kernel
theorem dX5_reads_151 : decode cX5_reads 151 = .ok (.aload_n 0, 1) := by decide +kernel
theorem dX5_reads_152 : decode cX5_reads 152 = .ok (.invokevirtual 73, 3) := by decide +kernel
theorem dX5_reads_155 : decode cX5_reads 155 = .ok (.aload_n 0, 1) := by decide +kernel
theorem dX5_reads_156 : decode cX5_reads 156 = .ok (.iload_n 3, 1) := by decide +kernel
theorem dX5_reads_157 : decode cX5_reads 157 = .ok (.iconst 2, 1) := by decide +kernel
theorem dX5_reads_158 : decode cX5_reads 158 = .ok (.invokevirtual 38, 3) := by decide +kernel
theorem dX5_reads_161 : decode cX5_reads 161 = .ok (.if_icmp .ne 7, 3) := by decide +kernel
theorem dX5_reads_164 : decode cX5_reads 164 = .ok (.iconst (-1), 1) := by decide +kernel
theorem dX5_reads_165 : decode cX5_reads 165 = .ok (.goto 4, 3) := by decide +kernel
theorem dX5_reads_168 : decode cX5_reads 168 = .ok (.iconst 1, 1) := by decide +kernel
theorem dX5_reads_169 : decode cX5_reads 169 = .ok (.iastore, 1) := by decide +kernel
theorem dX5_reads_170 : decode cX5_reads 170 = .ok (.iinc 2 (-1), 3) := by decide +kernel
theorem dX5_reads_173 : decode cX5_reads 173 = .ok (.goto (-161), 3) := by decide +kernel
theorem dX5_reads_176 : decode cX5_reads 176 = .ok (.aload_n 0, 1) := by decide +kernel
theorem dX5_reads_177 : decode cX5_reads 177 = .ok (.getfield 22, 3) := by decide +kernel
theorem dX5_reads_180 : decode cX5_reads 180 = .ok (.iconst 0, 1) := by decide +kernel
theorem dX5_reads_181 : decode cX5_reads 181 = .ok (.iaload, 1) := by decide +kernel
theorem dX5_reads_182 : decode cX5_reads 182 = .ok (.iconst (-1), 1) := by decide +kernel
theorem dX5_reads_183 : decode cX5_reads 183 = .ok (.if_icmp .ne 7, 3) := by decide +kernel
theorem dX5_reads_186 : decode cX5_reads 186 = .ok (.iconst 1, 1) := by decide +kernel
theorem dX5_reads_187 : decode cX5_reads 187 = .ok (.goto 4, 3) := by decide +kernel
theorem dX5_reads_190 : decode cX5_reads 190 = .ok (.iconst 0, 1) := by decide +kernel
theorem dX5_reads_191 : decode cX5_reads 191 = .ok (.ireturn, 1) := by decide +kernel
theorem dX5_linksOf_0 : decode cX5_linksOf 0 = .ok (.aload_n 0, 1) := by decide +kernel
theorem dX5_linksOf_1 : decode cX5_linksOf 1 = .ok (.iload_n 1, 1) := by decide +kernel
theorem dX5_linksOf_2 : decode cX5_linksOf 2 = .ok (.invokevirtual 62, 3) := by decide +kernel
theorem dX5_linksOf_5 : decode cX5_linksOf 5 = .ok (.aload_n 0, 1) := by decide +kernel
theorem dX5_linksOf_6 : decode cX5_linksOf 6 = .ok (.getfield 56, 3) := by decide +kernel
theorem dX5_linksOf_9 : decode cX5_linksOf 9 = .ok (.ireturn, 1) := by decide +kernel
theorem dX5_setsAside_0 : decode cX5_setsAside 0 = .ok (.iconst 0, 1) := by decide +kernel
theorem dX5_setsAside_1 : decode cX5_setsAside 1 = .ok (.istore_n 1, 1) := by decide +kernel
theorem dX5_setsAside_2 : decode cX5_setsAside 2 = .ok (.iload_n 1, 1) := by decide +kernel
theorem dX5_setsAside_3 : decode cX5_setsAside 3 = .ok (.bipush 12, 2) := by decide +kernel
theorem dX5_setsAside_5 : decode cX5_setsAside 5 = .ok (.if_icmp .ge 21, 3) := by decide +kernel
theorem dX5_setsAside_8 : decode cX5_setsAside 8 = .ok (.aload_n 0, 1) := by decide +kernel
theorem dX5_setsAside_9 : decode cX5_setsAside 9 = .ok (.getfield 25, 3) := by decide +kernel
theorem dX5_setsAside_12 : decode cX5_setsAside 12 = .ok (.iload_n 1, 1) := by decide +kernel
theorem dX5_setsAside_13 : decode cX5_setsAside 13 = .ok (.aload_n 0, 1) := by decide +kernel
theorem dX5_setsAside_14 : decode cX5_setsAside 14 = .ok (.getfield 16, 3) := by decide +kernel
theorem dX5_setsAside_17 : decode cX5_setsAside 17 = .ok (.iload_n 1, 1) := by decide +kernel
theorem dX5_setsAside_18 : decode cX5_setsAside 18 = .ok (.iaload, 1) := by decide +kernel
theorem dX5_setsAside_19 : decode cX5_setsAside 19 = .ok (.iastore, 1) := by decide +kernel
theorem dX5_setsAside_20 : decode cX5_setsAside 20 = .ok (.iinc 1 1, 3) := by decide +kernel
theorem dX5_setsAside_23 : decode cX5_setsAside 23 = .ok (.goto (-21), 3) := by decide +kernel
theorem dX5_setsAside_26 : decode cX5_setsAside 26 = .ok (.return_, 1) := by decide +kernel
theorem dX5_differences_0 : decode cX5_differences 0 = .ok (.iconst 0, 1) := by decide +kernel
theorem dX5_differences_1 : decode cX5_differences 1 = .ok (.istore_n 2, 1) := by decide +kernel
theorem dX5_differences_2 : decode cX5_differences 2 = .ok (.iconst 0, 1) := by decide +kernel
theorem dX5_differences_3 : decode cX5_differences 3 = .ok (.istore_n 3, 1) := by decide +kernel
theorem dX5_differences_4 : decode cX5_differences 4 = .ok (.iload_n 3, 1) := by decide +kernel
theorem dX5_differences_5 : decode cX5_differences 5 = .ok (.iload_n 1, 1) := by decide +kernel
theorem dX5_differences_6 : decode cX5_differences 6 = .ok (.if_icmp .ge 32, 3) := by decide +kernel
theorem dX5_differences_9 : decode cX5_differences 9 = .ok (.iload_n 2, 1) := by decide +kernel
theorem dX5_differences_10 : decode cX5_differences 10 = .ok (.aload_n 0, 1) := by decide +kernel
theorem dX5_differences_11 : decode cX5_differences 11 = .ok (.getfield 16, 3) := by decide +kernel
theorem dX5_differences_14 : decode cX5_differences 14 = .ok (.iload_n 3, 1) := by decide +kernel
theorem dX5_differences_15 : decode cX5_differences 15 = .ok (.iaload, 1) := by decide +kernel
theorem dX5_differences_16 : decode cX5_differences 16 = .ok (.aload_n 0, 1) := by decide +kernel
theorem dX5_differences_17 : decode cX5_differences 17 = .ok (.getfield 25, 3) := by decide +kernel
theorem dX5_differences_20 : decode cX5_differences 20 = .ok (.iload_n 3, 1) := by decide +kernel
theorem dX5_differences_21 : decode cX5_differences 21 = .ok (.iaload, 1) := by decide +kernel
theorem dX5_differences_22 : decode cX5_differences 22 = .ok (.if_icmp .ne 7, 3) := by decide +kernel
theorem dX5_differences_25 : decode cX5_differences 25 = .ok (.iconst 0, 1) := by decide +kernel
theorem dX5_differences_26 : decode cX5_differences 26 = .ok (.goto 4, 3) := by decide +kernel
theorem dX5_differences_29 : decode cX5_differences 29 = .ok (.iconst 1, 1) := by decide +kernel
theorem dX5_differences_30 : decode cX5_differences 30 = .ok (.iadd, 1) := by decide +kernel
theorem dX5_differences_31 : decode cX5_differences 31 = .ok (.istore_n 2, 1) := by decide +kernel
theorem dX5_differences_32 : decode cX5_differences 32 = .ok (.iinc 3 1, 3) := by decide +kernel
theorem dX5_differences_35 : decode cX5_differences 35 = .ok (.goto (-31), 3) := by decide +kernel
theorem dX5_differences_38 : decode cX5_differences 38 = .ok (.iload_n 2, 1) := by decide +kernel
theorem dX5_differences_39 : decode cX5_differences 39 = .ok (.ireturn, 1) := by decide +kernel
theorem dX5_writesWhole_0 : decode cX5_writesWhole 0 = .ok (.aload_n 0, 1) := by decide +kernel
theorem dX5_writesWhole_1 : decode cX5_writesWhole 1 = .ok (.iload_n 1, 1) := by decide +kernel
theorem dX5_writesWhole_2 : decode cX5_writesWhole 2 = .ok (.iconst 1, 1) := by decide +kernel
theorem dX5_writesWhole_3 : decode cX5_writesWhole 3 = .ok (.invokevirtual 38, 3) := by decide +kernel
theorem dX5_writesWhole_6 : decode cX5_writesWhole 6 = .ok (.invokestatic 52, 3) := by decide +kernel
theorem dX5_writesWhole_9 : decode cX5_writesWhole 9 = .ok (.istore_n 2, 1) := by decide +kernel
theorem dX5_writesWhole_10 : decode cX5_writesWhole 10 = .ok (.aload_n 0, 1) := by decide +kernel
theorem dX5_writesWhole_11 : decode cX5_writesWhole 11 = .ok (.iload_n 1, 1) := by decide +kernel
theorem dX5_writesWhole_12 : decode cX5_writesWhole 12 = .ok (.iconst 3, 1) := by decide +kernel
theorem dX5_writesWhole_13 : decode cX5_writesWhole 13 = .ok (.iconst (-1), 1) := by decide +kernel
theorem dX5_writesWhole_14 : decode cX5_writesWhole 14 = .ok (.invokevirtual 77, 3) := by decide +kernel
theorem dX5_writesWhole_17 : decode cX5_writesWhole 17 = .ok (.aload_n 0, 1) := by decide +kernel
theorem dX5_writesWhole_18 : decode cX5_writesWhole 18 = .ok (.iload_n 1, 1) := by decide +kernel
theorem dX5_writesWhole_19 : decode cX5_writesWhole 19 = .ok (.iconst 4, 1) := by decide +kernel
theorem dX5_writesWhole_20 : decode cX5_writesWhole 20 = .ok (.iload_n 2, 1) := by decide +kernel
theorem dX5_writesWhole_21 : decode cX5_writesWhole 21 = .ok (.invokevirtual 77, 3) := by decide +kernel
theorem dX5_writesWhole_24 : decode cX5_writesWhole 24 = .ok (.iconst 0, 1) := by decide +kernel
theorem dX5_writesWhole_25 : decode cX5_writesWhole 25 = .ok (.istore_n 3, 1) := by decide +kernel
theorem dX5_writesWhole_26 : decode cX5_writesWhole 26 = .ok (.iload_n 3, 1) := by decide +kernel
theorem dX5_writesWhole_27 : decode cX5_writesWhole 27 = .ok (.bipush 12, 2) := by decide +kernel
theorem dX5_writesWhole_29 : decode cX5_writesWhole 29 = .ok (.if_icmp .ge 51, 3) := by decide +kernel
theorem dX5_writesWhole_32 : decode cX5_writesWhole 32 = .ok (.aload_n 0, 1) := by decide +kernel
theorem dX5_writesWhole_33 : decode cX5_writesWhole 33 = .ok (.iload_n 1, 1) := by decide +kernel
theorem dX5_writesWhole_34 : decode cX5_writesWhole 34 = .ok (.iconst 5, 1) := by decide +kernel
theorem dX5_writesWhole_35 : decode cX5_writesWhole 35 = .ok (.iload_n 3, 1) := by decide +kernel
theorem dX5_writesWhole_36 : decode cX5_writesWhole 36 = .ok (.iadd, 1) := by decide +kernel
theorem dX5_writesWhole_37 : decode cX5_writesWhole 37 = .ok (.iload_n 3, 1) := by decide +kernel
theorem dX5_writesWhole_38 : decode cX5_writesWhole 38 = .ok (.iload_n 2, 1) := by decide +kernel
theorem dX5_writesWhole_39 : decode cX5_writesWhole 39 = .ok (.if_icmp .ge 7, 3) := by decide +kernel
theorem dX5_writesWhole_42 : decode cX5_writesWhole 42 = .ok (.iload_n 3, 1) := by decide +kernel
theorem dX5_writesWhole_43 : decode cX5_writesWhole 43 = .ok (.goto 4, 3) := by decide +kernel
theorem dX5_writesWhole_46 : decode cX5_writesWhole 46 = .ok (.iconst 0, 1) := by decide +kernel
theorem dX5_writesWhole_47 : decode cX5_writesWhole 47 = .ok (.invokevirtual 77, 3) := by decide +kernel
theorem dX5_writesWhole_50 : decode cX5_writesWhole 50 = .ok (.aload_n 0, 1) := by decide +kernel
theorem dX5_writesWhole_51 : decode cX5_writesWhole 51 = .ok (.iload_n 1, 1) := by decide +kernel
theorem dX5_writesWhole_52 : decode cX5_writesWhole 52 = .ok (.bipush 17, 2) := by decide +kernel
theorem dX5_writesWhole_54 : decode cX5_writesWhole 54 = .ok (.iload_n 3, 1) := by decide +kernel
theorem dX5_writesWhole_55 : decode cX5_writesWhole 55 = .ok (.iadd, 1) := by decide +kernel
theorem dX5_writesWhole_56 : decode cX5_writesWhole 56 = .ok (.iload_n 3, 1) := by decide +kernel
theorem dX5_writesWhole_57 : decode cX5_writesWhole 57 = .ok (.iload_n 2, 1) := by decide +kernel
theorem dX5_writesWhole_58 : decode cX5_writesWhole 58 = .ok (.if_icmp .ge 12, 3) := by decide +kernel
theorem dX5_writesWhole_61 : decode cX5_writesWhole 61 = .ok (.aload_n 0, 1) := by decide +kernel
theorem dX5_writesWhole_62 : decode cX5_writesWhole 62 = .ok (.getfield 25, 3) := by decide +kernel
theorem dX5_writesWhole_65 : decode cX5_writesWhole 65 = .ok (.iload_n 3, 1) := by decide +kernel
theorem dX5_writesWhole_66 : decode cX5_writesWhole 66 = .ok (.iaload, 1) := by decide +kernel
theorem dX5_writesWhole_67 : decode cX5_writesWhole 67 = .ok (.goto 4, 3) := by decide +kernel
theorem dX5_writesWhole_70 : decode cX5_writesWhole 70 = .ok (.iconst 0, 1) := by decide +kernel
theorem dX5_writesWhole_71 : decode cX5_writesWhole 71 = .ok (.invokevirtual 77, 3) := by decide +kernel
theorem dX5_writesWhole_74 : decode cX5_writesWhole 74 = .ok (.iinc 3 1, 3) := by decide +kernel
theorem dX5_writesWhole_77 : decode cX5_writesWhole 77 = .ok (.goto (-51), 3) := by decide +kernel
theorem dX5_writesWhole_80 : decode cX5_writesWhole 80 = .ok (.return_, 1) := by decide +kernel
theorem dX5_writesDifference_0 : decode cX5_writesDifference 0 = .ok (.iconst 0, 1) := by decide +kernel
theorem dX5_writesDifference_1 : decode cX5_writesDifference 1 = .ok (.istore_n 3, 1) := by decide +kernel
theorem dX5_writesDifference_2 : decode cX5_writesDifference 2 = .ok (.iconst 0, 1) := by decide +kernel
theorem dX5_writesDifference_3 : decode cX5_writesDifference 3 = .ok (.istore 4, 2) := by decide +kernel
theorem dX5_writesDifference_5 : decode cX5_writesDifference 5 = .ok (.iload 4, 2) := by decide +kernel
theorem dX5_writesDifference_7 : decode cX5_writesDifference 7 = .ok (.aload_n 0, 1) := by decide +kernel
theorem dX5_writesDifference_8 : decode cX5_writesDifference 8 = .ok (.iload_n 1, 1) := by decide +kernel
theorem dX5_writesDifference_9 : decode cX5_writesDifference 9 = .ok (.iconst 1, 1) := by decide +kernel
theorem dX5_writesDifference_10 : decode cX5_writesDifference 10 = .ok (.invokevirtual 38, 3) := by decide +kernel
theorem dX5_writesDifference_13 : decode cX5_writesDifference 13 = .ok (.invokestatic 52, 3) := by decide +kernel
theorem dX5_writesDifference_16 : decode cX5_writesDifference 16 = .ok (.if_icmp .ge 55, 3) := by decide +kernel
theorem dX5_writesDifference_19 : decode cX5_writesDifference 19 = .ok (.aload_n 0, 1) := by decide +kernel
theorem dX5_writesDifference_20 : decode cX5_writesDifference 20 = .ok (.getfield 16, 3) := by decide +kernel
theorem dX5_writesDifference_23 : decode cX5_writesDifference 23 = .ok (.iload 4, 2) := by decide +kernel
theorem dX5_writesDifference_25 : decode cX5_writesDifference 25 = .ok (.iaload, 1) := by decide +kernel
theorem dX5_writesDifference_26 : decode cX5_writesDifference 26 = .ok (.aload_n 0, 1) := by decide +kernel
theorem dX5_writesDifference_27 : decode cX5_writesDifference 27 = .ok (.getfield 25, 3) := by decide +kernel
theorem dX5_writesDifference_30 : decode cX5_writesDifference 30 = .ok (.iload 4, 2) := by decide +kernel
theorem dX5_writesDifference_32 : decode cX5_writesDifference 32 = .ok (.iaload, 1) := by decide +kernel
theorem dX5_writesDifference_33 : decode cX5_writesDifference 33 = .ok (.if_icmp .eq 32, 3) := by decide +kernel
theorem dX5_writesDifference_36 : decode cX5_writesDifference 36 = .ok (.aload_n 0, 1) := by decide +kernel
theorem dX5_writesDifference_37 : decode cX5_writesDifference 37 = .ok (.iload_n 1, 1) := by decide +kernel
theorem dX5_writesDifference_38 : decode cX5_writesDifference 38 = .ok (.iconst 5, 1) := by decide +kernel
theorem dX5_writesDifference_39 : decode cX5_writesDifference 39 = .ok (.iload_n 3, 1) := by decide +kernel
theorem dX5_writesDifference_40 : decode cX5_writesDifference 40 = .ok (.iadd, 1) := by decide +kernel
theorem dX5_writesDifference_41 : decode cX5_writesDifference 41 = .ok (.iload 4, 2) := by decide +kernel
theorem dX5_writesDifference_43 : decode cX5_writesDifference 43 = .ok (.invokevirtual 77, 3) := by decide +kernel
theorem dX5_writesDifference_46 : decode cX5_writesDifference 46 = .ok (.aload_n 0, 1) := by decide +kernel
theorem dX5_writesDifference_47 : decode cX5_writesDifference 47 = .ok (.iload_n 1, 1) := by decide +kernel
theorem dX5_writesDifference_48 : decode cX5_writesDifference 48 = .ok (.bipush 17, 2) := by decide +kernel
theorem dX5_writesDifference_50 : decode cX5_writesDifference 50 = .ok (.iload_n 3, 1) := by decide +kernel
theorem dX5_writesDifference_51 : decode cX5_writesDifference 51 = .ok (.iadd, 1) := by decide +kernel
theorem dX5_writesDifference_52 : decode cX5_writesDifference 52 = .ok (.aload_n 0, 1) := by decide +kernel
theorem dX5_writesDifference_53 : decode cX5_writesDifference 53 = .ok (.getfield 25, 3) := by decide +kernel
theorem dX5_writesDifference_56 : decode cX5_writesDifference 56 = .ok (.iload 4, 2) := by decide +kernel
theorem dX5_writesDifference_58 : decode cX5_writesDifference 58 = .ok (.iaload, 1) := by decide +kernel
theorem dX5_writesDifference_59 : decode cX5_writesDifference 59 = .ok (.invokevirtual 77, 3) := by decide +kernel
theorem dX5_writesDifference_62 : decode cX5_writesDifference 62 = .ok (.iinc 3 1, 3) := by decide +kernel
theorem dX5_writesDifference_65 : decode cX5_writesDifference 65 = .ok (.iinc 4 1, 3) := by decide +kernel
theorem dX5_writesDifference_68 : decode cX5_writesDifference 68 = .ok (.goto (-63), 3) := by decide +kernel
theorem dX5_writesDifference_71 : decode cX5_writesDifference 71 = .ok (.aload_n 0, 1) := by decide +kernel
theorem dX5_writesDifference_72 : decode cX5_writesDifference 72 = .ok (.iload_n 1, 1) := by decide +kernel
theorem dX5_writesDifference_73 : decode cX5_writesDifference 73 = .ok (.iconst 3, 1) := by decide +kernel
theorem dX5_writesDifference_74 : decode cX5_writesDifference 74 = .ok (.iload_n 2, 1) := by decide +kernel
theorem dX5_writesDifference_75 : decode cX5_writesDifference 75 = .ok (.invokevirtual 77, 3) := by decide +kernel
theorem dX5_writesDifference_78 : decode cX5_writesDifference 78 = .ok (.aload_n 0, 1) := by decide +kernel
theorem dX5_writesDifference_79 : decode cX5_writesDifference 79 = .ok (.iload_n 1, 1) := by decide +kernel
theorem dX5_writesDifference_80 : decode cX5_writesDifference 80 = .ok (.iconst 4, 1) := by decide +kernel
theorem dX5_writesDifference_81 : decode cX5_writesDifference 81 = .ok (.iload_n 3, 1) := by decide +kernel
theorem dX5_writesDifference_82 : decode cX5_writesDifference 82 = .ok (.invokevirtual 77, 3) := by decide +kernel
theorem dX5_writesDifference_85 : decode cX5_writesDifference 85 = .ok (.return_, 1) := by decide +kernel
theorem dX5_type_0 : decode cX5_type 0 = .ok (.iload_n 1, 1) := by decide +kernel
theorem dX5_type_1 : decode cX5_type 1 = .ok (.iconst 0, 1) := by decide +kernel
theorem dX5_type_2 : decode cX5_type 2 = .ok (.bipush 127, 2) := by decide +kernel
theorem dX5_type_4 : decode cX5_type 4 = .ok (.invokestatic 81, 3) := by decide +kernel
theorem dX5_type_7 : decode cX5_type 7 = .ok (.ifCond .ne 6, 3) := by decide +kernel
theorem dX5_type_10 : decode cX5_type 10 = .ok (.bipush (-2), 2) := by decide +kernel
theorem dX5_type_12 : decode cX5_type 12 = .ok (.ireturn, 1) := by decide +kernel
theorem dX5_type_13 : decode cX5_type 13 = .ok (.aload_n 0, 1) := by decide +kernel
theorem dX5_type_14 : decode cX5_type 14 = .ok (.getfield 85, 3) := by decide +kernel
theorem dX5_type_17 : decode cX5_type 17 = .ok (.bipush 80, 2) := by decide +kernel
theorem dX5_type_19 : decode cX5_type 19 = .ok (.if_icmp .ne 6, 3) := by decide +kernel
theorem dX5_type_22 : decode cX5_type 22 = .ok (.bipush (-4), 2) := by decide +kernel
theorem dX5_type_24 : decode cX5_type 24 = .ok (.ireturn, 1) := by decide +kernel
theorem dX5_type_25 : decode cX5_type 25 = .ok (.aload_n 0, 1) := by decide +kernel
theorem dX5_type_26 : decode cX5_type 26 = .ok (.getfield 28, 3) := by decide +kernel
theorem dX5_type_29 : decode cX5_type 29 = .ok (.aload_n 0, 1) := by decide +kernel
theorem dX5_type_30 : decode cX5_type 30 = .ok (.getfield 85, 3) := by decide +kernel
theorem dX5_type_33 : decode cX5_type 33 = .ok (.iload_n 1, 1) := by decide +kernel
theorem dX5_type_34 : decode cX5_type 34 = .ok (.iastore, 1) := by decide +kernel
theorem dX5_type_35 : decode cX5_type 35 = .ok (.aload_n 0, 1) := by decide +kernel
theorem dX5_type_36 : decode cX5_type 36 = .ok (.dup, 1) := by decide +kernel
theorem dX5_type_37 : decode cX5_type 37 = .ok (.getfield 85, 3) := by decide +kernel
theorem dX5_type_40 : decode cX5_type 40 = .ok (.iconst 1, 1) := by decide +kernel
theorem dX5_type_41 : decode cX5_type 41 = .ok (.iadd, 1) := by decide +kernel
theorem dX5_type_42 : decode cX5_type 42 = .ok (.putfield 85, 3) := by decide +kernel
theorem dX5_type_45 : decode cX5_type 45 = .ok (.aload_n 0, 1) := by decide +kernel
theorem dX5_type_46 : decode cX5_type 46 = .ok (.getfield 85, 3) := by decide +kernel
theorem dX5_type_49 : decode cX5_type 49 = .ok (.ireturn, 1) := by decide +kernel
theorem dX5_clear_0 : decode cX5_clear 0 = .ok (.aload_n 0, 1) := by decide +kernel
theorem dX5_clear_1 : decode cX5_clear 1 = .ok (.getfield 85, 3) := by decide +kernel
theorem dX5_clear_4 : decode cX5_clear 4 = .ok (.istore_n 1, 1) := by decide +kernel
theorem dX5_clear_5 : decode cX5_clear 5 = .ok (.aload_n 0, 1) := by decide +kernel
theorem dX5_clear_6 : decode cX5_clear 6 = .ok (.iconst 0, 1) := by decide +kernel
theorem dX5_clear_7 : decode cX5_clear 7 = .ok (.putfield 85, 3) := by decide +kernel
theorem dX5_clear_10 : decode cX5_clear 10 = .ok (.iload_n 1, 1) := by decide +kernel
theorem dX5_clear_11 : decode cX5_clear 11 = .ok (.ireturn, 1) := by decide +kernel
theorem dX5_next_0 : decode cX5_next 0 = .ok (.aload_n 0, 1) := by decide +kernel
theorem dX5_next_1 : decode cX5_next 1 = .ok (.getfield 88, 3) := by decide +kernel
theorem dX5_next_4 : decode cX5_next 4 = .ok (.aload_n 0, 1) := by decide +kernel
theorem dX5_next_5 : decode cX5_next 5 = .ok (.getfield 85, 3) := by decide +kernel
theorem dX5_next_8 : decode cX5_next 8 = .ok (.if_icmp .ge 15, 3) := by decide +kernel
theorem dX5_next_11 : decode cX5_next 11 = .ok (.aload_n 0, 1) := by decide +kernel
theorem dX5_next_12 : decode cX5_next 12 = .ok (.getfield 28, 3) := by decide +kernel
theorem dX5_next_15 : decode cX5_next 15 = .ok (.aload_n 0, 1) := by decide +kernel
theorem dX5_next_16 : decode cX5_next 16 = .ok (.getfield 88, 3) := by decide +kernel
theorem dX5_next_19 : decode cX5_next 19 = .ok (.iaload, 1) := by decide +kernel
theorem dX5_next_20 : decode cX5_next 20 = .ok (.goto 4, 3) := by decide +kernel
theorem dX5_next_23 : decode cX5_next 23 = .ok (.iconst (-1), 1) := by decide +kernel
theorem dX5_next_24 : decode cX5_next 24 = .ok (.ireturn, 1) := by decide +kernel
theorem dX5_isDigit_0 : decode cX5_isDigit 0 = .ok (.aload_n 0, 1) := by decide +kernel
theorem dX5_isDigit_1 : decode cX5_isDigit 1 = .ok (.invokevirtual 91, 3) := by decide +kernel
theorem dX5_isDigit_4 : decode cX5_isDigit 4 = .ok (.bipush 48, 2) := by decide +kernel
theorem dX5_isDigit_6 : decode cX5_isDigit 6 = .ok (.bipush 57, 2) := by decide +kernel
theorem dX5_isDigit_8 : decode cX5_isDigit 8 = .ok (.invokestatic 81, 3) := by decide +kernel
theorem dX5_isDigit_11 : decode cX5_isDigit 11 = .ok (.ireturn, 1) := by decide +kernel
theorem dX5_skips_0 : decode cX5_skips 0 = .ok (.aload_n 0, 1) := by decide +kernel
theorem dX5_skips_1 : decode cX5_skips 1 = .ok (.invokevirtual 91, 3) := by decide +kernel
theorem dX5_skips_4 : decode cX5_skips 4 = .ok (.bipush 32, 2) := by decide +kernel
theorem dX5_skips_6 : decode cX5_skips 6 = .ok (.if_icmp .ne 16, 3) := by decide +kernel
theorem dX5_skips_9 : decode cX5_skips 9 = .ok (.aload_n 0, 1) := by decide +kernel
theorem dX5_skips_10 : decode cX5_skips 10 = .ok (.dup, 1) := by decide +kernel
theorem dX5_skips_11 : decode cX5_skips 11 = .ok (.getfield 88, 3) := by decide +kernel
theorem dX5_skips_14 : decode cX5_skips 14 = .ok (.iconst 1, 1) := by decide +kernel
theorem dX5_skips_15 : decode cX5_skips 15 = .ok (.iadd, 1) := by decide +kernel
theorem dX5_skips_16 : decode cX5_skips 16 = .ok (.putfield 88, 3) := by decide +kernel
theorem dX5_skips_19 : decode cX5_skips 19 = .ok (.goto (-19), 3) := by decide +kernel
theorem dX5_skips_22 : decode cX5_skips 22 = .ok (.return_, 1) := by decide +kernel
theorem dX5_fails_0 : decode cX5_fails 0 = .ok (.aload_n 0, 1) := by decide +kernel
theorem dX5_fails_1 : decode cX5_fails 1 = .ok (.aload_n 0, 1) := by decide +kernel
theorem dX5_fails_2 : decode cX5_fails 2 = .ok (.getfield 94, 3) := by decide +kernel
theorem dX5_fails_5 : decode cX5_fails 5 = .ok (.iconst (-1), 1) := by decide +kernel
theorem dX5_fails_6 : decode cX5_fails 6 = .ok (.if_icmp .ne 7, 3) := by decide +kernel
theorem dX5_fails_9 : decode cX5_fails 9 = .ok (.iload_n 1, 1) := by decide +kernel
theorem dX5_fails_10 : decode cX5_fails 10 = .ok (.goto 7, 3) := by decide +kernel
theorem dX5_fails_13 : decode cX5_fails 13 = .ok (.aload_n 0, 1) := by decide +kernel
theorem dX5_fails_14 : decode cX5_fails 14 = .ok (.getfield 94, 3) := by decide +kernel
theorem dX5_fails_17 : decode cX5_fails 17 = .ok (.putfield 94, 3) := by decide +kernel
theorem dX5_fails_20 : decode cX5_fails 20 = .ok (.return_, 1) := by decide +kernel
theorem dX5_number_0 : decode cX5_number 0 = .ok (.aload_n 0, 1) := by decide +kernel
theorem dX5_number_1 : decode cX5_number 1 = .ok (.getfield 88, 3) := by decide +kernel
theorem dX5_number_4 : decode cX5_number 4 = .ok (.istore_n 3, 1) := by decide +kernel
theorem dX5_number_5 : decode cX5_number 5 = .ok (.iconst 0, 1) := by decide +kernel
theorem dX5_number_6 : decode cX5_number 6 = .ok (.istore 4, 2) := by decide +kernel
theorem dX5_number_8 : decode cX5_number 8 = .ok (.aload_n 0, 1) := by decide +kernel
theorem dX5_number_9 : decode cX5_number 9 = .ok (.getfield 94, 3) := by decide +kernel
theorem dX5_number_12 : decode cX5_number 12 = .ok (.iconst (-1), 1) := by decide +kernel
theorem dX5_number_13 : decode cX5_number 13 = .ok (.if_icmp .ne 48, 3) := by decide +kernel
theorem dX5_number_16 : decode cX5_number 16 = .ok (.aload_n 0, 1) := by decide +kernel
theorem dX5_number_17 : decode cX5_number 17 = .ok (.getfield 88, 3) := by decide +kernel
theorem dX5_number_20 : decode cX5_number 20 = .ok (.iload_n 3, 1) := by decide +kernel
theorem dX5_number_21 : decode cX5_number 21 = .ok (.iconst 2, 1) := by decide +kernel
theorem dX5_number_22 : decode cX5_number 22 = .ok (.iadd, 1) := by decide +kernel
theorem dX5_number_23 : decode cX5_number 23 = .ok (.if_icmp .ge 38, 3) := by decide +kernel
theorem dX5_number_26 : decode cX5_number 26 = .ok (.aload_n 0, 1) := by decide +kernel
theorem dX5_number_27 : decode cX5_number 27 = .ok (.invokevirtual 97, 3) := by decide +kernel
theorem dX5_number_30 : decode cX5_number 30 = .ok (.ifCond .eq 31, 3) := by decide +kernel
theorem dX5_number_33 : decode cX5_number 33 = .ok (.bipush 10, 2) := by decide +kernel
theorem dX5_number_35 : decode cX5_number 35 = .ok (.iload 4, 2) := by decide +kernel
theorem dX5_number_37 : decode cX5_number 37 = .ok (.imul, 1) := by decide +kernel
theorem dX5_number_38 : decode cX5_number 38 = .ok (.aload_n 0, 1) := by decide +kernel
theorem dX5_number_39 : decode cX5_number 39 = .ok (.invokevirtual 91, 3) := by decide +kernel
theorem dX5_number_42 : decode cX5_number 42 = .ok (.iadd, 1) := by decide +kernel
theorem dX5_number_43 : decode cX5_number 43 = .ok (.bipush 48, 2) := by decide +kernel
theorem dX5_number_45 : decode cX5_number 45 = .ok (.isub, 1) := by decide +kernel
theorem dX5_number_46 : decode cX5_number 46 = .ok (.istore 4, 2) := by decide +kernel
theorem dX5_number_48 : decode cX5_number 48 = .ok (.aload_n 0, 1) := by decide +kernel
theorem dX5_number_49 : decode cX5_number 49 = .ok (.dup, 1) := by decide +kernel
theorem dX5_number_50 : decode cX5_number 50 = .ok (.getfield 88, 3) := by decide +kernel
theorem dX5_number_53 : decode cX5_number 53 = .ok (.iconst 1, 1) := by decide +kernel
theorem dX5_number_54 : decode cX5_number 54 = .ok (.iadd, 1) := by decide +kernel
theorem dX5_number_55 : decode cX5_number 55 = .ok (.putfield 88, 3) := by decide +kernel
theorem dX5_number_58 : decode cX5_number 58 = .ok (.goto (-50), 3) := by decide +kernel
theorem dX5_number_61 : decode cX5_number 61 = .ok (.aload_n 0, 1) := by decide +kernel
theorem dX5_number_62 : decode cX5_number 62 = .ok (.getfield 88, 3) := by decide +kernel
theorem dX5_number_65 : decode cX5_number 65 = .ok (.iload_n 3, 1) := by decide +kernel
theorem dX5_number_66 : decode cX5_number 66 = .ok (.if_icmp .eq 13, 3) := by decide +kernel
theorem dX5_number_69 : decode cX5_number 69 = .ok (.iload 4, 2) := by decide +kernel
theorem dX5_number_71 : decode cX5_number 71 = .ok (.iload_n 1, 1) := by decide +kernel
theorem dX5_number_72 : decode cX5_number 72 = .ok (.iload_n 2, 1) := by decide +kernel
theorem dX5_number_73 : decode cX5_number 73 = .ok (.invokestatic 81, 3) := by decide +kernel
theorem dX5_number_76 : decode cX5_number 76 = .ok (.ifCond .ne 8, 3) := by decide +kernel
theorem dX5_number_79 : decode cX5_number 79 = .ok (.aload_n 0, 1) := by decide +kernel
theorem dX5_number_80 : decode cX5_number 80 = .ok (.iload_n 3, 1) := by decide +kernel
theorem dX5_number_81 : decode cX5_number 81 = .ok (.invokevirtual 101, 3) := by decide +kernel
theorem dX5_number_84 : decode cX5_number 84 = .ok (.aload_n 0, 1) := by decide +kernel
theorem dX5_number_85 : decode cX5_number 85 = .ok (.invokevirtual 97, 3) := by decide +kernel
theorem dX5_number_88 : decode cX5_number 88 = .ok (.ifCond .eq 11, 3) := by decide +kernel
theorem dX5_number_91 : decode cX5_number 91 = .ok (.aload_n 0, 1) := by decide +kernel
theorem dX5_number_92 : decode cX5_number 92 = .ok (.aload_n 0, 1) := by decide +kernel
theorem dX5_number_93 : decode cX5_number 93 = .ok (.getfield 88, 3) := by decide +kernel
theorem dX5_number_96 : decode cX5_number 96 = .ok (.invokevirtual 101, 3) := by decide +kernel
theorem dX5_number_99 : decode cX5_number 99 = .ok (.aload_n 0, 1) := by decide +kernel
theorem dX5_number_100 : decode cX5_number 100 = .ok (.invokevirtual 104, 3) := by decide +kernel
theorem dX5_number_103 : decode cX5_number 103 = .ok (.iload 4, 2) := by decide +kernel
theorem dX5_number_105 : decode cX5_number 105 = .ok (.ireturn, 1) := by decide +kernel
theorem dX5_amount_0 : decode cX5_amount 0 = .ok (.aload_n 0, 1) := by decide +kernel
theorem dX5_amount_1 : decode cX5_amount 1 = .ok (.getfield 94, 3) := by decide +kernel
theorem dX5_amount_4 : decode cX5_amount 4 = .ok (.iconst (-1), 1) := by decide +kernel
theorem dX5_amount_5 : decode cX5_amount 5 = .ok (.if_icmp .ne 16, 3) := by decide +kernel
theorem dX5_amount_8 : decode cX5_amount 8 = .ok (.aload_n 0, 1) := by decide +kernel
theorem dX5_amount_9 : decode cX5_amount 9 = .ok (.invokevirtual 91, 3) := by decide +kernel
theorem dX5_amount_12 : decode cX5_amount 12 = .ok (.bipush 45, 2) := by decide +kernel
theorem dX5_amount_14 : decode cX5_amount 14 = .ok (.if_icmp .ne 7, 3) := by decide +kernel
theorem dX5_amount_17 : decode cX5_amount 17 = .ok (.iconst 1, 1) := by decide +kernel
theorem dX5_amount_18 : decode cX5_amount 18 = .ok (.goto 4, 3) := by decide +kernel
theorem dX5_amount_21 : decode cX5_amount 21 = .ok (.iconst 0, 1) := by decide +kernel
theorem dX5_amount_22 : decode cX5_amount 22 = .ok (.istore_n 1, 1) := by decide +kernel
theorem dX5_amount_23 : decode cX5_amount 23 = .ok (.aload_n 0, 1) := by decide +kernel
theorem dX5_amount_24 : decode cX5_amount 24 = .ok (.dup, 1) := by decide +kernel
theorem dX5_amount_25 : decode cX5_amount 25 = .ok (.getfield 88, 3) := by decide +kernel
theorem dX5_amount_28 : decode cX5_amount 28 = .ok (.iload_n 1, 1) := by decide +kernel
theorem dX5_amount_29 : decode cX5_amount 29 = .ok (.ifCond .eq 7, 3) := by decide +kernel
theorem dX5_amount_32 : decode cX5_amount 32 = .ok (.iconst 1, 1) := by decide +kernel
theorem dX5_amount_33 : decode cX5_amount 33 = .ok (.goto 4, 3) := by decide +kernel
theorem dX5_amount_36 : decode cX5_amount 36 = .ok (.iconst 0, 1) := by decide +kernel
theorem dX5_amount_37 : decode cX5_amount 37 = .ok (.iadd, 1) := by decide +kernel
theorem dX5_amount_38 : decode cX5_amount 38 = .ok (.putfield 88, 3) := by decide +kernel
theorem dX5_amount_41 : decode cX5_amount 41 = .ok (.aload_n 0, 1) := by decide +kernel
theorem dX5_amount_42 : decode cX5_amount 42 = .ok (.iconst 0, 1) := by decide +kernel
theorem dX5_amount_43 : decode cX5_amount 43 = .ok (.bipush 99, 2) := by decide +kernel
theorem dX5_amount_45 : decode cX5_amount 45 = .ok (.invokevirtual 107, 3) := by decide +kernel
theorem dX5_amount_48 : decode cX5_amount 48 = .ok (.istore_n 2, 1) := by decide +kernel
theorem dX5_amount_49 : decode cX5_amount 49 = .ok (.iload_n 1, 1) := by decide +kernel
theorem dX5_amount_50 : decode cX5_amount 50 = .ok (.ifCond .eq 8, 3) := by decide +kernel
theorem dX5_amount_53 : decode cX5_amount 53 = .ok (.iload_n 2, 1) := by decide +kernel
theorem dX5_amount_54 : decode cX5_amount 54 = .ok (.ineg, 1) := by decide +kernel
theorem dX5_amount_55 : decode cX5_amount 55 = .ok (.goto 4, 3) := by decide +kernel
theorem dX5_amount_58 : decode cX5_amount 58 = .ok (.iload_n 2, 1) := by decide +kernel
theorem dX5_amount_59 : decode cX5_amount 59 = .ok (.ireturn, 1) := by decide +kernel
theorem dX5_isWord_0 : decode cX5_isWord 0 = .ok (.aload_n 0, 1) := by decide +kernel
theorem dX5_isWord_1 : decode cX5_isWord 1 = .ok (.getfield 88, 3) := by decide +kernel
theorem dX5_isWord_4 : decode cX5_isWord 4 = .ok (.iload_n 1, 1) := by decide +kernel
theorem dX5_isWord_5 : decode cX5_isWord 5 = .ok (.isub, 1) := by decide +kernel
theorem dX5_isWord_6 : decode cX5_isWord 6 = .ok (.iload_n 3, 1) := by decide +kernel
theorem dX5_isWord_7 : decode cX5_isWord 7 = .ok (.if_icmp .ne 7, 3) := by decide +kernel
theorem dX5_isWord_10 : decode cX5_isWord 10 = .ok (.iconst 1, 1) := by decide +kernel
theorem dX5_isWord_11 : decode cX5_isWord 11 = .ok (.goto 4, 3) := by decide +kernel
theorem dX5_isWord_14 : decode cX5_isWord 14 = .ok (.iconst 0, 1) := by decide +kernel
theorem dX5_isWord_15 : decode cX5_isWord 15 = .ok (.istore 4, 2) := by decide +kernel
theorem dX5_isWord_17 : decode cX5_isWord 17 = .ok (.iconst 0, 1) := by decide +kernel
theorem dX5_isWord_18 : decode cX5_isWord 18 = .ok (.istore 5, 2) := by decide +kernel
theorem dX5_isWord_20 : decode cX5_isWord 20 = .ok (.iload 5, 2) := by decide +kernel
theorem dX5_isWord_22 : decode cX5_isWord 22 = .ok (.iload_n 3, 1) := by decide +kernel
theorem dX5_isWord_23 : decode cX5_isWord 23 = .ok (.if_icmp .ge 47, 3) := by decide +kernel
theorem dX5_isWord_26 : decode cX5_isWord 26 = .ok (.iload 4, 2) := by decide +kernel
theorem dX5_isWord_28 : decode cX5_isWord 28 = .ok (.ifCond .eq 42, 3) := by decide +kernel
theorem dX5_isWord_31 : decode cX5_isWord 31 = .ok (.aload_n 0, 1) := by decide +kernel
theorem dX5_isWord_32 : decode cX5_isWord 32 = .ok (.getfield 28, 3) := by decide +kernel
theorem dX5_isWord_35 : decode cX5_isWord 35 = .ok (.iload_n 1, 1) := by decide +kernel
theorem dX5_isWord_36 : decode cX5_isWord 36 = .ok (.iload 5, 2) := by decide +kernel
theorem dX5_isWord_38 : decode cX5_isWord 38 = .ok (.iadd, 1) := by decide +kernel
theorem dX5_isWord_39 : decode cX5_isWord 39 = .ok (.iaload, 1) := by decide +kernel
theorem dX5_isWord_40 : decode cX5_isWord 40 = .ok (.iload_n 2, 1) := by decide +kernel
theorem dX5_isWord_41 : decode cX5_isWord 41 = .ok (.bipush 8, 2) := by decide +kernel
theorem dX5_isWord_43 : decode cX5_isWord 43 = .ok (.iload_n 3, 1) := by decide +kernel
theorem dX5_isWord_44 : decode cX5_isWord 44 = .ok (.iconst 1, 1) := by decide +kernel
theorem dX5_isWord_45 : decode cX5_isWord 45 = .ok (.isub, 1) := by decide +kernel
theorem dX5_isWord_46 : decode cX5_isWord 46 = .ok (.iload 5, 2) := by decide +kernel
theorem dX5_isWord_48 : decode cX5_isWord 48 = .ok (.isub, 1) := by decide +kernel
theorem dX5_isWord_49 : decode cX5_isWord 49 = .ok (.imul, 1) := by decide +kernel
theorem dX5_isWord_50 : decode cX5_isWord 50 = .ok (.ishr, 1) := by decide +kernel
theorem dX5_isWord_51 : decode cX5_isWord 51 = .ok (.bipush 127, 2) := by decide +kernel
theorem dX5_isWord_53 : decode cX5_isWord 53 = .ok (.iand, 1) := by decide +kernel
theorem dX5_isWord_54 : decode cX5_isWord 54 = .ok (.if_icmp .ne 7, 3) := by decide +kernel
theorem dX5_isWord_57 : decode cX5_isWord 57 = .ok (.iconst 1, 1) := by decide +kernel
theorem dX5_isWord_58 : decode cX5_isWord 58 = .ok (.goto 4, 3) := by decide +kernel
theorem dX5_isWord_61 : decode cX5_isWord 61 = .ok (.iconst 0, 1) := by decide +kernel
theorem dX5_isWord_62 : decode cX5_isWord 62 = .ok (.istore 4, 2) := by decide +kernel
theorem dX5_isWord_64 : decode cX5_isWord 64 = .ok (.iinc 5 1, 3) := by decide +kernel
theorem dX5_isWord_67 : decode cX5_isWord 67 = .ok (.goto (-47), 3) := by decide +kernel
theorem dX5_isWord_70 : decode cX5_isWord 70 = .ok (.iload 4, 2) := by decide +kernel
theorem dX5_isWord_72 : decode cX5_isWord 72 = .ok (.ireturn, 1) := by decide +kernel
theorem dX5_wordOf_0 : decode cX5_wordOf 0 = .ok (.aload_n 0, 1) := by decide +kernel
theorem dX5_wordOf_1 : decode cX5_wordOf 1 = .ok (.iload_n 1, 1) := by decide +kernel
theorem dX5_wordOf_2 : decode cX5_wordOf 2 = .ok (.ldc 110, 2) := by decide +kernel
theorem dX5_wordOf_4 : decode cX5_wordOf 4 = .ok (.iconst 3, 1) := by decide +kernel
theorem dX5_wordOf_5 : decode cX5_wordOf 5 = .ok (.invokevirtual 111, 3) := by decide +kernel
theorem dX5_wordOf_8 : decode cX5_wordOf 8 = .ok (.ifCond .eq 5, 3) := by decide +kernel
theorem dX5_wordOf_11 : decode cX5_wordOf 11 = .ok (.iconst 0, 1) := by decide +kernel
theorem dX5_wordOf_12 : decode cX5_wordOf 12 = .ok (.ireturn, 1) := by decide +kernel
theorem dX5_wordOf_13 : decode cX5_wordOf 13 = .ok (.aload_n 0, 1) := by decide +kernel
theorem dX5_wordOf_14 : decode cX5_wordOf 14 = .ok (.iload_n 1, 1) := by decide +kernel
theorem dX5_wordOf_15 : decode cX5_wordOf 15 = .ok (.ldc 114, 2) := by decide +kernel
theorem dX5_wordOf_17 : decode cX5_wordOf 17 = .ok (.iconst 3, 1) := by decide +kernel
theorem dX5_wordOf_18 : decode cX5_wordOf 18 = .ok (.invokevirtual 111, 3) := by decide +kernel
theorem dX5_wordOf_21 : decode cX5_wordOf 21 = .ok (.ifCond .eq 5, 3) := by decide +kernel
theorem dX5_wordOf_24 : decode cX5_wordOf 24 = .ok (.iconst 1, 1) := by decide +kernel
theorem dX5_wordOf_25 : decode cX5_wordOf 25 = .ok (.ireturn, 1) := by decide +kernel
theorem dX5_wordOf_26 : decode cX5_wordOf 26 = .ok (.aload_n 0, 1) := by decide +kernel
theorem dX5_wordOf_27 : decode cX5_wordOf 27 = .ok (.iload_n 1, 1) := by decide +kernel
theorem dX5_wordOf_28 : decode cX5_wordOf 28 = .ok (.ldc 115, 2) := by decide +kernel
theorem dX5_wordOf_30 : decode cX5_wordOf 30 = .ok (.iconst 4, 1) := by decide +kernel
theorem dX5_wordOf_31 : decode cX5_wordOf 31 = .ok (.invokevirtual 111, 3) := by decide +kernel
theorem dX5_wordOf_34 : decode cX5_wordOf 34 = .ok (.ifCond .eq 5, 3) := by decide +kernel
theorem dX5_wordOf_37 : decode cX5_wordOf 37 = .ok (.iconst 2, 1) := by decide +kernel
theorem dX5_wordOf_38 : decode cX5_wordOf 38 = .ok (.ireturn, 1) := by decide +kernel
theorem dX5_wordOf_39 : decode cX5_wordOf 39 = .ok (.aload_n 0, 1) := by decide +kernel
theorem dX5_wordOf_40 : decode cX5_wordOf 40 = .ok (.iload_n 1, 1) := by decide +kernel
theorem dX5_wordOf_41 : decode cX5_wordOf 41 = .ok (.ldc 116, 2) := by decide +kernel
theorem dX5_wordOf_43 : decode cX5_wordOf 43 = .ok (.iconst 4, 1) := by decide +kernel
theorem dX5_wordOf_44 : decode cX5_wordOf 44 = .ok (.invokevirtual 111, 3) := by decide +kernel
theorem dX5_wordOf_47 : decode cX5_wordOf 47 = .ok (.ifCond .eq 5, 3) := by decide +kernel
theorem dX5_wordOf_50 : decode cX5_wordOf 50 = .ok (.iconst 3, 1) := by decide +kernel
theorem dX5_wordOf_51 : decode cX5_wordOf 51 = .ok (.ireturn, 1) := by decide +kernel
theorem dX5_wordOf_52 : decode cX5_wordOf 52 = .ok (.aload_n 0, 1) := by decide +kernel
theorem dX5_wordOf_53 : decode cX5_wordOf 53 = .ok (.iload_n 1, 1) := by decide +kernel
theorem dX5_wordOf_54 : decode cX5_wordOf 54 = .ok (.ldc 117, 2) := by decide +kernel
theorem dX5_wordOf_56 : decode cX5_wordOf 56 = .ok (.iconst 4, 1) := by decide +kernel
theorem dX5_wordOf_57 : decode cX5_wordOf 57 = .ok (.invokevirtual 111, 3) := by decide +kernel
theorem dX5_wordOf_60 : decode cX5_wordOf 60 = .ok (.ifCond .eq 7, 3) := by decide +kernel
theorem dX5_wordOf_63 : decode cX5_wordOf 63 = .ok (.iconst 4, 1) := by decide +kernel
theorem dX5_wordOf_64 : decode cX5_wordOf 64 = .ok (.goto 4, 3) := by decide +kernel
theorem dX5_wordOf_67 : decode cX5_wordOf 67 = .ok (.iconst (-1), 1) := by decide +kernel
theorem dX5_wordOf_68 : decode cX5_wordOf 68 = .ok (.ireturn, 1) := by decide +kernel
theorem dX5_readsCommand_0 : decode cX5_readsCommand 0 = .ok (.aload_n 0, 1) := by decide +kernel
theorem dX5_readsCommand_1 : decode cX5_readsCommand 1 = .ok (.getfield 88, 3) := by decide +kernel
theorem dX5_readsCommand_4 : decode cX5_readsCommand 4 = .ok (.istore_n 1, 1) := by decide +kernel
theorem dX5_readsCommand_5 : decode cX5_readsCommand 5 = .ok (.aload_n 0, 1) := by decide +kernel
theorem dX5_readsCommand_6 : decode cX5_readsCommand 6 = .ok (.invokevirtual 91, 3) := by decide +kernel
theorem dX5_readsCommand_9 : decode cX5_readsCommand 9 = .ok (.bipush 97, 2) := by decide +kernel
theorem dX5_readsCommand_11 : decode cX5_readsCommand 11 = .ok (.bipush 122, 2) := by decide +kernel
theorem dX5_readsCommand_13 : decode cX5_readsCommand 13 = .ok (.invokestatic 81, 3) := by decide +kernel
theorem dX5_readsCommand_16 : decode cX5_readsCommand 16 = .ok (.ifCond .eq 16, 3) := by decide +kernel
theorem dX5_readsCommand_19 : decode cX5_readsCommand 19 = .ok (.aload_n 0, 1) := by decide +kernel
theorem dX5_readsCommand_20 : decode cX5_readsCommand 20 = .ok (.dup, 1) := by decide +kernel
theorem dX5_readsCommand_21 : decode cX5_readsCommand 21 = .ok (.getfield 88, 3) := by decide +kernel
theorem dX5_readsCommand_24 : decode cX5_readsCommand 24 = .ok (.iconst 1, 1) := by decide +kernel
theorem dX5_readsCommand_25 : decode cX5_readsCommand 25 = .ok (.iadd, 1) := by decide +kernel
theorem dX5_readsCommand_26 : decode cX5_readsCommand 26 = .ok (.putfield 88, 3) := by decide +kernel
theorem dX5_readsCommand_29 : decode cX5_readsCommand 29 = .ok (.goto (-24), 3) := by decide +kernel
theorem dX5_readsCommand_32 : decode cX5_readsCommand 32 = .ok (.aload_n 0, 1) := by decide +kernel
theorem dX5_readsCommand_33 : decode cX5_readsCommand 33 = .ok (.iload_n 1, 1) := by decide +kernel
theorem dX5_readsCommand_34 : decode cX5_readsCommand 34 = .ok (.invokevirtual 118, 3) := by decide +kernel
theorem dX5_readsCommand_37 : decode cX5_readsCommand 37 = .ok (.istore_n 2, 1) := by decide +kernel
theorem dX5_readsCommand_38 : decode cX5_readsCommand 38 = .ok (.iload_n 2, 1) := by decide +kernel
theorem dX5_readsCommand_39 : decode cX5_readsCommand 39 = .ok (.iconst (-1), 1) := by decide +kernel
theorem dX5_readsCommand_40 : decode cX5_readsCommand 40 = .ok (.if_icmp .ne 9, 3) := by decide +kernel
theorem dX5_readsCommand_43 : decode cX5_readsCommand 43 = .ok (.aload_n 0, 1) := by decide +kernel
theorem dX5_readsCommand_44 : decode cX5_readsCommand 44 = .ok (.iload_n 1, 1) := by decide +kernel
theorem dX5_readsCommand_45 : decode cX5_readsCommand 45 = .ok (.invokevirtual 101, 3) := by decide +kernel
theorem dX5_readsCommand_48 : decode cX5_readsCommand 48 = .ok (.return_, 1) := by decide +kernel
theorem dX5_readsCommand_49 : decode cX5_readsCommand 49 = .ok (.aload_n 0, 1) := by decide +kernel
theorem dX5_readsCommand_50 : decode cX5_readsCommand 50 = .ok (.invokevirtual 104, 3) := by decide +kernel
theorem dX5_readsCommand_53 : decode cX5_readsCommand 53 = .ok (.aload_n 0, 1) := by decide +kernel
theorem dX5_readsCommand_54 : decode cX5_readsCommand 54 = .ok (.getfield 7, 3) := by decide +kernel
theorem dX5_readsCommand_57 : decode cX5_readsCommand 57 = .ok (.sipush 582, 3) := by decide +kernel
theorem dX5_readsCommand_60 : decode cX5_readsCommand 60 = .ok (.iaload, 1) := by decide +kernel
theorem dX5_readsCommand_61 : decode cX5_readsCommand 61 = .ok (.invokestatic 52, 3) := by decide +kernel
theorem dX5_readsCommand_64 : decode cX5_readsCommand 64 = .ok (.iconst 1, 1) := by decide +kernel
theorem dX5_readsCommand_65 : decode cX5_readsCommand 65 = .ok (.isub, 1) := by decide +kernel
theorem dX5_readsCommand_66 : decode cX5_readsCommand 66 = .ok (.istore_n 3, 1) := by decide +kernel
theorem dX5_readsCommand_67 : decode cX5_readsCommand 67 = .ok (.iconst 4, 1) := by decide +kernel
theorem dX5_readsCommand_68 : decode cX5_readsCommand 68 = .ok (.aload_n 0, 1) := by decide +kernel
theorem dX5_readsCommand_69 : decode cX5_readsCommand 69 = .ok (.getfield 121, 3) := by decide +kernel
theorem dX5_readsCommand_72 : decode cX5_readsCommand 72 = .ok (.imul, 1) := by decide +kernel
theorem dX5_readsCommand_73 : decode cX5_readsCommand 73 = .ok (.istore 4, 2) := by decide +kernel
theorem dX5_readsCommand_75 : decode cX5_readsCommand 75 = .ok (.aload_n 0, 1) := by decide +kernel
theorem dX5_readsCommand_76 : decode cX5_readsCommand 76 = .ok (.getfield 31, 3) := by decide +kernel
theorem dX5_readsCommand_79 : decode cX5_readsCommand 79 = .ok (.iload 4, 2) := by decide +kernel
theorem dX5_readsCommand_81 : decode cX5_readsCommand 81 = .ok (.iload_n 2, 1) := by decide +kernel
theorem dX5_readsCommand_82 : decode cX5_readsCommand 82 = .ok (.iastore, 1) := by decide +kernel
theorem dX5_readsCommand_83 : decode cX5_readsCommand 83 = .ok (.aload_n 0, 1) := by decide +kernel
theorem dX5_readsCommand_84 : decode cX5_readsCommand 84 = .ok (.getfield 31, 3) := by decide +kernel
theorem dX5_readsCommand_87 : decode cX5_readsCommand 87 = .ok (.iload 4, 2) := by decide +kernel
theorem dX5_readsCommand_89 : decode cX5_readsCommand 89 = .ok (.iconst 1, 1) := by decide +kernel
theorem dX5_readsCommand_90 : decode cX5_readsCommand 90 = .ok (.iadd, 1) := by decide +kernel
theorem dX5_readsCommand_91 : decode cX5_readsCommand 91 = .ok (.aload_n 0, 1) := by decide +kernel
theorem dX5_readsCommand_92 : decode cX5_readsCommand 92 = .ok (.iconst 0, 1) := by decide +kernel
theorem dX5_readsCommand_93 : decode cX5_readsCommand 93 = .ok (.iload_n 3, 1) := by decide +kernel
theorem dX5_readsCommand_94 : decode cX5_readsCommand 94 = .ok (.invokevirtual 107, 3) := by decide +kernel
theorem dX5_readsCommand_97 : decode cX5_readsCommand 97 = .ok (.iastore, 1) := by decide +kernel
theorem dX5_readsCommand_98 : decode cX5_readsCommand 98 = .ok (.aload_n 0, 1) := by decide +kernel
theorem dX5_readsCommand_99 : decode cX5_readsCommand 99 = .ok (.getfield 31, 3) := by decide +kernel
theorem dX5_readsCommand_102 : decode cX5_readsCommand 102 = .ok (.iload 4, 2) := by decide +kernel
theorem dX5_readsCommand_104 : decode cX5_readsCommand 104 = .ok (.iconst 2, 1) := by decide +kernel
theorem dX5_readsCommand_105 : decode cX5_readsCommand 105 = .ok (.iadd, 1) := by decide +kernel
theorem dX5_readsCommand_106 : decode cX5_readsCommand 106 = .ok (.iload_n 2, 1) := by decide +kernel
theorem dX5_readsCommand_107 : decode cX5_readsCommand 107 = .ok (.ifCond .ne 13, 3) := by decide +kernel
theorem dX5_readsCommand_110 : decode cX5_readsCommand 110 = .ok (.aload_n 0, 1) := by decide +kernel
theorem dX5_readsCommand_111 : decode cX5_readsCommand 111 = .ok (.iconst 0, 1) := by decide +kernel
theorem dX5_readsCommand_112 : decode cX5_readsCommand 112 = .ok (.bipush 99, 2) := by decide +kernel
theorem dX5_readsCommand_114 : decode cX5_readsCommand 114 = .ok (.invokevirtual 107, 3) := by decide +kernel
theorem dX5_readsCommand_117 : decode cX5_readsCommand 117 = .ok (.goto 38, 3) := by decide +kernel
theorem dX5_readsCommand_120 : decode cX5_readsCommand 120 = .ok (.iload_n 2, 1) := by decide +kernel
theorem dX5_readsCommand_121 : decode cX5_readsCommand 121 = .ok (.iconst 1, 1) := by decide +kernel
theorem dX5_readsCommand_122 : decode cX5_readsCommand 122 = .ok (.if_icmp .ne 10, 3) := by decide +kernel
theorem dX5_readsCommand_125 : decode cX5_readsCommand 125 = .ok (.aload_n 0, 1) := by decide +kernel
theorem dX5_readsCommand_126 : decode cX5_readsCommand 126 = .ok (.invokevirtual 124, 3) := by decide +kernel
theorem dX5_readsCommand_129 : decode cX5_readsCommand 129 = .ok (.goto 26, 3) := by decide +kernel
theorem dX5_readsCommand_132 : decode cX5_readsCommand 132 = .ok (.aload_n 0, 1) := by decide +kernel
theorem dX5_readsCommand_133 : decode cX5_readsCommand 133 = .ok (.iload_n 2, 1) := by decide +kernel
theorem dX5_readsCommand_134 : decode cX5_readsCommand 134 = .ok (.iconst 2, 1) := by decide +kernel
theorem dX5_readsCommand_135 : decode cX5_readsCommand 135 = .ok (.if_icmp .ne 7, 3) := by decide +kernel
theorem dX5_readsCommand_138 : decode cX5_readsCommand 138 = .ok (.iconst 0, 1) := by decide +kernel
theorem dX5_readsCommand_139 : decode cX5_readsCommand 139 = .ok (.goto 12, 3) := by decide +kernel
theorem dX5_readsCommand_142 : decode cX5_readsCommand 142 = .ok (.aload_n 0, 1) := by decide +kernel
theorem dX5_readsCommand_143 : decode cX5_readsCommand 143 = .ok (.getfield 31, 3) := by decide +kernel
theorem dX5_readsCommand_146 : decode cX5_readsCommand 146 = .ok (.iload 4, 2) := by decide +kernel
theorem dX5_readsCommand_148 : decode cX5_readsCommand 148 = .ok (.iconst 1, 1) := by decide +kernel
theorem dX5_readsCommand_149 : decode cX5_readsCommand 149 = .ok (.iadd, 1) := by decide +kernel
theorem dX5_readsCommand_150 : decode cX5_readsCommand 150 = .ok (.iaload, 1) := by decide +kernel
theorem dX5_readsCommand_151 : decode cX5_readsCommand 151 = .ok (.iload_n 3, 1) := by decide +kernel
theorem dX5_readsCommand_152 : decode cX5_readsCommand 152 = .ok (.invokevirtual 107, 3) := by decide +kernel
theorem dX5_readsCommand_155 : decode cX5_readsCommand 155 = .ok (.iastore, 1) := by decide +kernel
theorem dX5_readsCommand_156 : decode cX5_readsCommand 156 = .ok (.aload_n 0, 1) := by decide +kernel
theorem dX5_readsCommand_157 : decode cX5_readsCommand 157 = .ok (.getfield 31, 3) := by decide +kernel
theorem dX5_readsCommand_160 : decode cX5_readsCommand 160 = .ok (.iload 4, 2) := by decide +kernel
theorem dX5_readsCommand_162 : decode cX5_readsCommand 162 = .ok (.iconst 3, 1) := by decide +kernel
theorem dX5_readsCommand_163 : decode cX5_readsCommand 163 = .ok (.iadd, 1) := by decide +kernel
theorem dX5_readsCommand_164 : decode cX5_readsCommand 164 = .ok (.iload_n 2, 1) := by decide +kernel
theorem dX5_readsCommand_165 : decode cX5_readsCommand 165 = .ok (.iconst 3, 1) := by decide +kernel
theorem dX5_readsCommand_166 : decode cX5_readsCommand 166 = .ok (.if_icmp .ne 13, 3) := by decide +kernel
theorem dX5_readsCommand_169 : decode cX5_readsCommand 169 = .ok (.aload_n 0, 1) := by decide +kernel
theorem dX5_readsCommand_170 : decode cX5_readsCommand 170 = .ok (.iconst 0, 1) := by decide +kernel
theorem dX5_readsCommand_171 : decode cX5_readsCommand 171 = .ok (.bipush 99, 2) := by decide +kernel
theorem dX5_readsCommand_173 : decode cX5_readsCommand 173 = .ok (.invokevirtual 107, 3) := by decide +kernel
theorem dX5_readsCommand_176 : decode cX5_readsCommand 176 = .ok (.goto 4, 3) := by decide +kernel
theorem dX5_readsCommand_179 : decode cX5_readsCommand 179 = .ok (.iconst 0, 1) := by decide +kernel
theorem dX5_readsCommand_180 : decode cX5_readsCommand 180 = .ok (.iastore, 1) := by decide +kernel
theorem dX5_readsCommand_181 : decode cX5_readsCommand 181 = .ok (.aload_n 0, 1) := by decide +kernel
theorem dX5_readsCommand_182 : decode cX5_readsCommand 182 = .ok (.invokevirtual 91, 3) := by decide +kernel
theorem dX5_readsCommand_185 : decode cX5_readsCommand 185 = .ok (.bipush 59, 2) := by decide +kernel
theorem dX5_readsCommand_187 : decode cX5_readsCommand 187 = .ok (.if_icmp .ne 20, 3) := by decide +kernel
theorem dX5_readsCommand_190 : decode cX5_readsCommand 190 = .ok (.aload_n 0, 1) := by decide +kernel
theorem dX5_readsCommand_191 : decode cX5_readsCommand 191 = .ok (.dup, 1) := by decide +kernel
theorem dX5_readsCommand_192 : decode cX5_readsCommand 192 = .ok (.getfield 88, 3) := by decide +kernel
theorem dX5_readsCommand_195 : decode cX5_readsCommand 195 = .ok (.iconst 1, 1) := by decide +kernel
theorem dX5_readsCommand_196 : decode cX5_readsCommand 196 = .ok (.iadd, 1) := by decide +kernel
theorem dX5_readsCommand_197 : decode cX5_readsCommand 197 = .ok (.putfield 88, 3) := by decide +kernel
theorem dX5_readsCommand_200 : decode cX5_readsCommand 200 = .ok (.aload_n 0, 1) := by decide +kernel
theorem dX5_readsCommand_201 : decode cX5_readsCommand 201 = .ok (.invokevirtual 104, 3) := by decide +kernel
theorem dX5_readsCommand_204 : decode cX5_readsCommand 204 = .ok (.goto 11, 3) := by decide +kernel
theorem dX5_readsCommand_207 : decode cX5_readsCommand 207 = .ok (.aload_n 0, 1) := by decide +kernel
theorem dX5_readsCommand_208 : decode cX5_readsCommand 208 = .ok (.aload_n 0, 1) := by decide +kernel
theorem dX5_readsCommand_209 : decode cX5_readsCommand 209 = .ok (.getfield 88, 3) := by decide +kernel
theorem dX5_readsCommand_212 : decode cX5_readsCommand 212 = .ok (.invokevirtual 101, 3) := by decide +kernel
theorem dX5_readsCommand_215 : decode cX5_readsCommand 215 = .ok (.aload_n 0, 1) := by decide +kernel
theorem dX5_readsCommand_216 : decode cX5_readsCommand 216 = .ok (.dup, 1) := by decide +kernel
theorem dX5_readsCommand_217 : decode cX5_readsCommand 217 = .ok (.getfield 121, 3) := by decide +kernel
theorem dX5_readsCommand_220 : decode cX5_readsCommand 220 = .ok (.iconst 1, 1) := by decide +kernel
theorem dX5_readsCommand_221 : decode cX5_readsCommand 221 = .ok (.iadd, 1) := by decide +kernel
theorem dX5_readsCommand_222 : decode cX5_readsCommand 222 = .ok (.putfield 121, 3) := by decide +kernel
theorem dX5_readsCommand_225 : decode cX5_readsCommand 225 = .ok (.return_, 1) := by decide +kernel
theorem dX5_readsScript_0 : decode cX5_readsScript 0 = .ok (.aload_n 0, 1) := by decide +kernel
theorem dX5_readsScript_1 : decode cX5_readsScript 1 = .ok (.iconst 0, 1) := by decide +kernel
theorem dX5_readsScript_2 : decode cX5_readsScript 2 = .ok (.putfield 88, 3) := by decide +kernel
theorem dX5_readsScript_5 : decode cX5_readsScript 5 = .ok (.aload_n 0, 1) := by decide +kernel
theorem dX5_readsScript_6 : decode cX5_readsScript 6 = .ok (.iconst (-1), 1) := by decide +kernel
theorem dX5_readsScript_7 : decode cX5_readsScript 7 = .ok (.putfield 94, 3) := by decide +kernel
theorem dX5_readsScript_10 : decode cX5_readsScript 10 = .ok (.aload_n 0, 1) := by decide +kernel
theorem dX5_readsScript_11 : decode cX5_readsScript 11 = .ok (.iconst 0, 1) := by decide +kernel
theorem dX5_readsScript_12 : decode cX5_readsScript 12 = .ok (.putfield 121, 3) := by decide +kernel
theorem dX5_readsScript_15 : decode cX5_readsScript 15 = .ok (.aload_n 0, 1) := by decide +kernel
theorem dX5_readsScript_16 : decode cX5_readsScript 16 = .ok (.invokevirtual 104, 3) := by decide +kernel
theorem dX5_readsScript_19 : decode cX5_readsScript 19 = .ok (.aload_n 0, 1) := by decide +kernel
theorem dX5_readsScript_20 : decode cX5_readsScript 20 = .ok (.getfield 88, 3) := by decide +kernel
theorem dX5_readsScript_23 : decode cX5_readsScript 23 = .ok (.aload_n 0, 1) := by decide +kernel
theorem dX5_readsScript_24 : decode cX5_readsScript 24 = .ok (.getfield 85, 3) := by decide +kernel
theorem dX5_readsScript_27 : decode cX5_readsScript 27 = .ok (.if_icmp .ge 18, 3) := by decide +kernel
theorem dX5_readsScript_30 : decode cX5_readsScript 30 = .ok (.aload_n 0, 1) := by decide +kernel
theorem dX5_readsScript_31 : decode cX5_readsScript 31 = .ok (.getfield 94, 3) := by decide +kernel
theorem dX5_readsScript_34 : decode cX5_readsScript 34 = .ok (.iconst (-1), 1) := by decide +kernel
theorem dX5_readsScript_35 : decode cX5_readsScript 35 = .ok (.if_icmp .ne 10, 3) := by decide +kernel
theorem dX5_readsScript_38 : decode cX5_readsScript 38 = .ok (.aload_n 0, 1) := by decide +kernel
theorem dX5_readsScript_39 : decode cX5_readsScript 39 = .ok (.invokevirtual 127, 3) := by decide +kernel
theorem dX5_readsScript_42 : decode cX5_readsScript 42 = .ok (.goto (-23), 3) := by decide +kernel
theorem dX5_readsScript_45 : decode cX5_readsScript 45 = .ok (.return_, 1) := by decide +kernel
theorem dX5_turns_0 : decode cX5_turns 0 = .ok (.aload_n 0, 1) := by decide +kernel
theorem dX5_turns_1 : decode cX5_turns 1 = .ok (.getfield 7, 3) := by decide +kernel
theorem dX5_turns_4 : decode cX5_turns 4 = .ok (.sipush 583, 3) := by decide +kernel
theorem dX5_turns_7 : decode cX5_turns 7 = .ok (.iload_n 2, 1) := by decide +kernel
theorem dX5_turns_8 : decode cX5_turns 8 = .ok (.iadd, 1) := by decide +kernel
theorem dX5_turns_9 : decode cX5_turns 9 = .ok (.iaload, 1) := by decide +kernel
theorem dX5_turns_10 : decode cX5_turns 10 = .ok (.istore_n 3, 1) := by decide +kernel
theorem dX5_turns_11 : decode cX5_turns 11 = .ok (.iload_n 2, 1) := by decide +kernel
theorem dX5_turns_12 : decode cX5_turns 12 = .ok (.istore 4, 2) := by decide +kernel
theorem dX5_turns_14 : decode cX5_turns 14 = .ok (.iload 4, 2) := by decide +kernel
theorem dX5_turns_16 : decode cX5_turns 16 = .ok (.iload_n 1, 1) := by decide +kernel
theorem dX5_turns_17 : decode cX5_turns 17 = .ok (.if_icmp .le 33, 3) := by decide +kernel
theorem dX5_turns_20 : decode cX5_turns 20 = .ok (.aload_n 0, 1) := by decide +kernel
theorem dX5_turns_21 : decode cX5_turns 21 = .ok (.getfield 7, 3) := by decide +kernel
theorem dX5_turns_24 : decode cX5_turns 24 = .ok (.sipush 583, 3) := by decide +kernel
theorem dX5_turns_27 : decode cX5_turns 27 = .ok (.iload 4, 2) := by decide +kernel
theorem dX5_turns_29 : decode cX5_turns 29 = .ok (.iadd, 1) := by decide +kernel
theorem dX5_turns_30 : decode cX5_turns 30 = .ok (.aload_n 0, 1) := by decide +kernel
theorem dX5_turns_31 : decode cX5_turns 31 = .ok (.getfield 7, 3) := by decide +kernel
theorem dX5_turns_34 : decode cX5_turns 34 = .ok (.sipush 583, 3) := by decide +kernel
theorem dX5_turns_37 : decode cX5_turns 37 = .ok (.iload 4, 2) := by decide +kernel
theorem dX5_turns_39 : decode cX5_turns 39 = .ok (.iadd, 1) := by decide +kernel
theorem dX5_turns_40 : decode cX5_turns 40 = .ok (.iconst 1, 1) := by decide +kernel
theorem dX5_turns_41 : decode cX5_turns 41 = .ok (.isub, 1) := by decide +kernel
theorem dX5_turns_42 : decode cX5_turns 42 = .ok (.iaload, 1) := by decide +kernel
theorem dX5_turns_43 : decode cX5_turns 43 = .ok (.iastore, 1) := by decide +kernel
theorem dX5_turns_44 : decode cX5_turns 44 = .ok (.iinc 4 (-1), 3) := by decide +kernel
theorem dX5_turns_47 : decode cX5_turns 47 = .ok (.goto (-33), 3) := by decide +kernel
theorem dX5_turns_50 : decode cX5_turns 50 = .ok (.aload_n 0, 1) := by decide +kernel
theorem dX5_turns_51 : decode cX5_turns 51 = .ok (.getfield 7, 3) := by decide +kernel
theorem dX5_turns_54 : decode cX5_turns 54 = .ok (.sipush 583, 3) := by decide +kernel
theorem dX5_turns_57 : decode cX5_turns 57 = .ok (.iload_n 1, 1) := by decide +kernel
theorem dX5_turns_58 : decode cX5_turns 58 = .ok (.iadd, 1) := by decide +kernel
theorem dX5_turns_59 : decode cX5_turns 59 = .ok (.iload_n 3, 1) := by decide +kernel
theorem dX5_turns_60 : decode cX5_turns 60 = .ok (.iastore, 1) := by decide +kernel
theorem dX5_turns_61 : decode cX5_turns 61 = .ok (.return_, 1) := by decide +kernel
theorem dX5_does_0 : decode cX5_does 0 = .ok (.aload_n 0, 1) := by decide +kernel
theorem dX5_does_1 : decode cX5_does 1 = .ok (.getfield 31, 3) := by decide +kernel
theorem dX5_does_4 : decode cX5_does 4 = .ok (.iload_n 1, 1) := by decide +kernel
theorem dX5_does_5 : decode cX5_does 5 = .ok (.iconst 1, 1) := by decide +kernel
theorem dX5_does_6 : decode cX5_does 6 = .ok (.iadd, 1) := by decide +kernel
theorem dX5_does_7 : decode cX5_does 7 = .ok (.iaload, 1) := by decide +kernel
theorem dX5_does_8 : decode cX5_does 8 = .ok (.istore_n 2, 1) := by decide +kernel
theorem dX5_does_9 : decode cX5_does 9 = .ok (.aload_n 0, 1) := by decide +kernel
theorem dX5_does_10 : decode cX5_does 10 = .ok (.getfield 31, 3) := by decide +kernel
theorem dX5_does_13 : decode cX5_does 13 = .ok (.iload_n 1, 1) := by decide +kernel
theorem dX5_does_14 : decode cX5_does 14 = .ok (.iconst 2, 1) := by decide +kernel
theorem dX5_does_15 : decode cX5_does 15 = .ok (.iadd, 1) := by decide +kernel
theorem dX5_does_16 : decode cX5_does 16 = .ok (.iaload, 1) := by decide +kernel
theorem dX5_does_17 : decode cX5_does 17 = .ok (.istore_n 3, 1) := by decide +kernel
theorem dX5_does_18 : decode cX5_does 18 = .ok (.aload_n 0, 1) := by decide +kernel
theorem dX5_does_19 : decode cX5_does 19 = .ok (.getfield 31, 3) := by decide +kernel
theorem dX5_does_22 : decode cX5_does 22 = .ok (.iload_n 1, 1) := by decide +kernel
theorem dX5_does_23 : decode cX5_does 23 = .ok (.iaload, 1) := by decide +kernel
theorem dX5_does_24 : decode cX5_does 24 = .ok (.tableswitch 180 0 3 #[32, 46, 96, 143], 32) := by decide +kernel
theorem dX5_does_56 : decode cX5_does 56 = .ok (.aload_n 0, 1) := by decide +kernel
theorem dX5_does_57 : decode cX5_does 57 = .ok (.getfield 7, 3) := by decide +kernel
theorem dX5_does_60 : decode cX5_does 60 = .ok (.sipush 583, 3) := by decide +kernel
theorem dX5_does_63 : decode cX5_does 63 = .ok (.iload_n 2, 1) := by decide +kernel
theorem dX5_does_64 : decode cX5_does 64 = .ok (.iadd, 1) := by decide +kernel
theorem dX5_does_65 : decode cX5_does 65 = .ok (.iload_n 3, 1) := by decide +kernel
theorem dX5_does_66 : decode cX5_does 66 = .ok (.iastore, 1) := by decide +kernel
theorem dX5_does_67 : decode cX5_does 67 = .ok (.goto 143, 3) := by decide +kernel
theorem dX5_does_70 : decode cX5_does 70 = .ok (.aload_n 0, 1) := by decide +kernel
theorem dX5_does_71 : decode cX5_does 71 = .ok (.getfield 7, 3) := by decide +kernel
theorem dX5_does_74 : decode cX5_does 74 = .ok (.sipush 583, 3) := by decide +kernel
theorem dX5_does_77 : decode cX5_does 77 = .ok (.iload_n 2, 1) := by decide +kernel
theorem dX5_does_78 : decode cX5_does 78 = .ok (.iadd, 1) := by decide +kernel
theorem dX5_does_79 : decode cX5_does 79 = .ok (.iaload, 1) := by decide +kernel
theorem dX5_does_80 : decode cX5_does 80 = .ok (.iload_n 3, 1) := by decide +kernel
theorem dX5_does_81 : decode cX5_does 81 = .ok (.iadd, 1) := by decide +kernel
theorem dX5_does_82 : decode cX5_does 82 = .ok (.istore 4, 2) := by decide +kernel
theorem dX5_does_84 : decode cX5_does 84 = .ok (.aload_n 0, 1) := by decide +kernel
theorem dX5_does_85 : decode cX5_does 85 = .ok (.getfield 7, 3) := by decide +kernel
theorem dX5_does_88 : decode cX5_does 88 = .ok (.sipush 583, 3) := by decide +kernel
theorem dX5_does_91 : decode cX5_does 91 = .ok (.iload_n 2, 1) := by decide +kernel
theorem dX5_does_92 : decode cX5_does 92 = .ok (.iadd, 1) := by decide +kernel
theorem dX5_does_93 : decode cX5_does 93 = .ok (.iload 4, 2) := by decide +kernel
theorem dX5_does_95 : decode cX5_does 95 = .ok (.ifCond .ge 7, 3) := by decide +kernel
theorem dX5_does_98 : decode cX5_does 98 = .ok (.iconst 0, 1) := by decide +kernel
theorem dX5_does_99 : decode cX5_does 99 = .ok (.goto 17, 3) := by decide +kernel
theorem dX5_does_102 : decode cX5_does 102 = .ok (.iload 4, 2) := by decide +kernel
theorem dX5_does_104 : decode cX5_does 104 = .ok (.bipush 99, 2) := by decide +kernel
theorem dX5_does_106 : decode cX5_does 106 = .ok (.if_icmp .le 8, 3) := by decide +kernel
theorem dX5_does_109 : decode cX5_does 109 = .ok (.bipush 99, 2) := by decide +kernel
theorem dX5_does_111 : decode cX5_does 111 = .ok (.goto 5, 3) := by decide +kernel
theorem dX5_does_114 : decode cX5_does 114 = .ok (.iload 4, 2) := by decide +kernel
theorem dX5_does_116 : decode cX5_does 116 = .ok (.iastore, 1) := by decide +kernel
theorem dX5_does_117 : decode cX5_does 117 = .ok (.goto 93, 3) := by decide +kernel
theorem dX5_does_120 : decode cX5_does 120 = .ok (.aload_n 0, 1) := by decide +kernel
theorem dX5_does_121 : decode cX5_does 121 = .ok (.getfield 7, 3) := by decide +kernel
theorem dX5_does_124 : decode cX5_does 124 = .ok (.sipush 583, 3) := by decide +kernel
theorem dX5_does_127 : decode cX5_does 127 = .ok (.iload_n 2, 1) := by decide +kernel
theorem dX5_does_128 : decode cX5_does 128 = .ok (.iadd, 1) := by decide +kernel
theorem dX5_does_129 : decode cX5_does 129 = .ok (.iaload, 1) := by decide +kernel
theorem dX5_does_130 : decode cX5_does 130 = .ok (.istore 4, 2) := by decide +kernel
theorem dX5_does_132 : decode cX5_does 132 = .ok (.aload_n 0, 1) := by decide +kernel
theorem dX5_does_133 : decode cX5_does 133 = .ok (.getfield 7, 3) := by decide +kernel
theorem dX5_does_136 : decode cX5_does 136 = .ok (.sipush 583, 3) := by decide +kernel
theorem dX5_does_139 : decode cX5_does 139 = .ok (.iload_n 2, 1) := by decide +kernel
theorem dX5_does_140 : decode cX5_does 140 = .ok (.iadd, 1) := by decide +kernel
theorem dX5_does_141 : decode cX5_does 141 = .ok (.aload_n 0, 1) := by decide +kernel
theorem dX5_does_142 : decode cX5_does 142 = .ok (.getfield 7, 3) := by decide +kernel
theorem dX5_does_145 : decode cX5_does 145 = .ok (.sipush 583, 3) := by decide +kernel
theorem dX5_does_148 : decode cX5_does 148 = .ok (.iload_n 3, 1) := by decide +kernel
theorem dX5_does_149 : decode cX5_does 149 = .ok (.iadd, 1) := by decide +kernel
theorem dX5_does_150 : decode cX5_does 150 = .ok (.iaload, 1) := by decide +kernel
theorem dX5_does_151 : decode cX5_does 151 = .ok (.iastore, 1) := by decide +kernel
theorem dX5_does_152 : decode cX5_does 152 = .ok (.aload_n 0, 1) := by decide +kernel
theorem dX5_does_153 : decode cX5_does 153 = .ok (.getfield 7, 3) := by decide +kernel
theorem dX5_does_156 : decode cX5_does 156 = .ok (.sipush 583, 3) := by decide +kernel
theorem dX5_does_159 : decode cX5_does 159 = .ok (.iload_n 3, 1) := by decide +kernel
theorem dX5_does_160 : decode cX5_does 160 = .ok (.iadd, 1) := by decide +kernel
theorem dX5_does_161 : decode cX5_does 161 = .ok (.iload 4, 2) := by decide +kernel
theorem dX5_does_163 : decode cX5_does 163 = .ok (.iastore, 1) := by decide +kernel
theorem dX5_does_164 : decode cX5_does 164 = .ok (.goto 46, 3) := by decide +kernel
theorem dX5_does_167 : decode cX5_does 167 = .ok (.iload_n 2, 1) := by decide +kernel
theorem dX5_does_168 : decode cX5_does 168 = .ok (.istore 4, 2) := by decide +kernel
theorem dX5_does_170 : decode cX5_does 170 = .ok (.iload 4, 2) := by decide +kernel
theorem dX5_does_172 : decode cX5_does 172 = .ok (.iload_n 3, 1) := by decide +kernel
theorem dX5_does_173 : decode cX5_does 173 = .ok (.if_icmp .gt 28, 3) := by decide +kernel
theorem dX5_does_176 : decode cX5_does 176 = .ok (.aload_n 0, 1) := by decide +kernel
theorem dX5_does_177 : decode cX5_does 177 = .ok (.getfield 7, 3) := by decide +kernel
theorem dX5_does_180 : decode cX5_does 180 = .ok (.sipush 583, 3) := by decide +kernel
theorem dX5_does_183 : decode cX5_does 183 = .ok (.iload 4, 2) := by decide +kernel
theorem dX5_does_185 : decode cX5_does 185 = .ok (.iadd, 1) := by decide +kernel
theorem dX5_does_186 : decode cX5_does 186 = .ok (.aload_n 0, 1) := by decide +kernel
theorem dX5_does_187 : decode cX5_does 187 = .ok (.getfield 31, 3) := by decide +kernel
theorem dX5_does_190 : decode cX5_does 190 = .ok (.iload_n 1, 1) := by decide +kernel
theorem dX5_does_191 : decode cX5_does 191 = .ok (.iconst 3, 1) := by decide +kernel
theorem dX5_does_192 : decode cX5_does 192 = .ok (.iadd, 1) := by decide +kernel
theorem dX5_does_193 : decode cX5_does 193 = .ok (.iaload, 1) := by decide +kernel
theorem dX5_does_194 : decode cX5_does 194 = .ok (.iastore, 1) := by decide +kernel
theorem dX5_does_195 : decode cX5_does 195 = .ok (.iinc 4 1, 3) := by decide +kernel
theorem dX5_does_198 : decode cX5_does 198 = .ok (.goto (-28), 3) := by decide +kernel
theorem dX5_does_201 : decode cX5_does 201 = .ok (.goto 9, 3) := by decide +kernel
theorem dX5_does_204 : decode cX5_does 204 = .ok (.aload_n 0, 1) := by decide +kernel
theorem dX5_does_205 : decode cX5_does 205 = .ok (.iload_n 2, 1) := by decide +kernel
theorem dX5_does_206 : decode cX5_does 206 = .ok (.iload_n 3, 1) := by decide +kernel
theorem dX5_does_207 : decode cX5_does 207 = .ok (.invokevirtual 130, 3) := by decide +kernel
theorem dX5_does_210 : decode cX5_does 210 = .ok (.return_, 1) := by decide +kernel
theorem dX5_play_0 : decode cX5_play 0 = .ok (.aload_n 0, 1) := by decide +kernel
theorem dX5_play_1 : decode cX5_play 1 = .ok (.invokevirtual 134, 3) := by decide +kernel
theorem dX5_play_4 : decode cX5_play 4 = .ok (.aload_n 0, 1) := by decide +kernel
theorem dX5_play_5 : decode cX5_play 5 = .ok (.getfield 94, 3) := by decide +kernel
theorem dX5_play_8 : decode cX5_play 8 = .ok (.iconst (-1), 1) := by decide +kernel
theorem dX5_play_9 : decode cX5_play 9 = .ok (.if_icmp .eq 12, 3) := by decide +kernel
theorem dX5_play_12 : decode cX5_play 12 = .ok (.sipush (-2000), 3) := by decide +kernel
theorem dX5_play_15 : decode cX5_play 15 = .ok (.aload_n 0, 1) := by decide +kernel
theorem dX5_play_16 : decode cX5_play 16 = .ok (.getfield 94, 3) := by decide +kernel
theorem dX5_play_19 : decode cX5_play 19 = .ok (.isub, 1) := by decide +kernel
theorem dX5_play_20 : decode cX5_play 20 = .ok (.ireturn, 1) := by decide +kernel
theorem dX5_play_21 : decode cX5_play 21 = .ok (.aload_n 0, 1) := by decide +kernel
theorem dX5_play_22 : decode cX5_play 22 = .ok (.invokevirtual 137, 3) := by decide +kernel
theorem dX5_play_25 : decode cX5_play 25 = .ok (.iconst 0, 1) := by decide +kernel
theorem dX5_play_26 : decode cX5_play 26 = .ok (.istore_n 1, 1) := by decide +kernel
theorem dX5_play_27 : decode cX5_play 27 = .ok (.iload_n 1, 1) := by decide +kernel
theorem dX5_play_28 : decode cX5_play 28 = .ok (.aload_n 0, 1) := by decide +kernel
theorem dX5_play_29 : decode cX5_play 29 = .ok (.getfield 121, 3) := by decide +kernel
theorem dX5_play_32 : decode cX5_play 32 = .ok (.if_icmp .ge 16, 3) := by decide +kernel
theorem dX5_play_35 : decode cX5_play 35 = .ok (.aload_n 0, 1) := by decide +kernel
theorem dX5_play_36 : decode cX5_play 36 = .ok (.iconst 4, 1) := by decide +kernel
theorem dX5_play_37 : decode cX5_play 37 = .ok (.iload_n 1, 1) := by decide +kernel
theorem dX5_play_38 : decode cX5_play 38 = .ok (.imul, 1) := by decide +kernel
theorem dX5_play_39 : decode cX5_play 39 = .ok (.invokevirtual 140, 3) := by decide +kernel
theorem dX5_play_42 : decode cX5_play 42 = .ok (.iinc 1 1, 3) := by decide +kernel
theorem dX5_play_45 : decode cX5_play 45 = .ok (.goto (-18), 3) := by decide +kernel
theorem dX5_play_48 : decode cX5_play 48 = .ok (.aload_n 0, 1) := by decide +kernel
theorem dX5_play_49 : decode cX5_play 49 = .ok (.getfield 121, 3) := by decide +kernel
theorem dX5_play_52 : decode cX5_play 52 = .ok (.ireturn, 1) := by decide +kernel
theorem dX5_raise_0 : decode cX5_raise 0 = .ok (.aload_n 0, 1) := by decide +kernel
theorem dX5_raise_1 : decode cX5_raise 1 = .ok (.getfield 7, 3) := by decide +kernel
theorem dX5_raise_4 : decode cX5_raise 4 = .ok (.sipush 582, 3) := by decide +kernel
theorem dX5_raise_7 : decode cX5_raise 7 = .ok (.iaload, 1) := by decide +kernel
theorem dX5_raise_8 : decode cX5_raise 8 = .ok (.iconst 3, 1) := by decide +kernel
theorem dX5_raise_9 : decode cX5_raise 9 = .ok (.if_icmp .ne 6, 3) := by decide +kernel
theorem dX5_raise_12 : decode cX5_raise 12 = .ok (.bipush (-3), 2) := by decide +kernel
theorem dX5_raise_14 : decode cX5_raise 14 = .ok (.ireturn, 1) := by decide +kernel
theorem dX5_raise_15 : decode cX5_raise 15 = .ok (.aload_n 0, 1) := by decide +kernel
theorem dX5_raise_16 : decode cX5_raise 16 = .ok (.invokevirtual 137, 3) := by decide +kernel
theorem dX5_raise_19 : decode cX5_raise 19 = .ok (.aload_n 0, 1) := by decide +kernel
theorem dX5_raise_20 : decode cX5_raise 20 = .ok (.invokevirtual 143, 3) := by decide +kernel
theorem dX5_raise_23 : decode cX5_raise 23 = .ok (.aload_n 0, 1) := by decide +kernel
theorem dX5_raise_24 : decode cX5_raise 24 = .ok (.invokevirtual 49, 3) := by decide +kernel
theorem dX5_raise_27 : decode cX5_raise 27 = .ok (.aload_n 0, 1) := by decide +kernel
theorem dX5_raise_28 : decode cX5_raise 28 = .ok (.invokevirtual 146, 3) := by decide +kernel
theorem dX5_raise_31 : decode cX5_raise 31 = .ok (.aload_n 0, 1) := by decide +kernel
theorem dX5_raise_32 : decode cX5_raise 32 = .ok (.getfield 46, 3) := by decide +kernel
theorem dX5_raise_35 : decode cX5_raise 35 = .ok (.ireturn, 1) := by decide +kernel
theorem dX5_isNear_0 : decode cX5_isNear 0 = .ok (.aload_n 0, 1) := by decide +kernel
theorem dX5_isNear_1 : decode cX5_isNear 1 = .ok (.invokevirtual 143, 3) := by decide +kernel
theorem dX5_isNear_4 : decode cX5_isNear 4 = .ok (.aload_n 0, 1) := by decide +kernel
theorem dX5_isNear_5 : decode cX5_isNear 5 = .ok (.invokevirtual 149, 3) := by decide +kernel
theorem dX5_isNear_8 : decode cX5_isNear 8 = .ok (.aload_n 0, 1) := by decide +kernel
theorem dX5_isNear_9 : decode cX5_isNear 9 = .ok (.getfield 7, 3) := by decide +kernel
theorem dX5_isNear_12 : decode cX5_isNear 12 = .ok (.sipush 595, 3) := by decide +kernel
theorem dX5_isNear_15 : decode cX5_isNear 15 = .ok (.iaload, 1) := by decide +kernel
theorem dX5_isNear_16 : decode cX5_isNear 16 = .ok (.iconst (-1), 1) := by decide +kernel
theorem dX5_isNear_17 : decode cX5_isNear 17 = .ok (.if_icmp .eq 33, 3) := by decide +kernel
theorem dX5_isNear_20 : decode cX5_isNear 20 = .ok (.aload_n 0, 1) := by decide +kernel
theorem dX5_isNear_21 : decode cX5_isNear 21 = .ok (.aload_n 0, 1) := by decide +kernel
theorem dX5_isNear_22 : decode cX5_isNear 22 = .ok (.getfield 7, 3) := by decide +kernel
theorem dX5_isNear_25 : decode cX5_isNear 25 = .ok (.sipush 595, 3) := by decide +kernel
theorem dX5_isNear_28 : decode cX5_isNear 28 = .ok (.iaload, 1) := by decide +kernel
theorem dX5_isNear_29 : decode cX5_isNear 29 = .ok (.invokevirtual 152, 3) := by decide +kernel
theorem dX5_isNear_32 : decode cX5_isNear 32 = .ok (.ifCond .eq 18, 3) := by decide +kernel
theorem dX5_isNear_35 : decode cX5_isNear 35 = .ok (.aload_n 0, 1) := by decide +kernel
theorem dX5_isNear_36 : decode cX5_isNear 36 = .ok (.getfield 56, 3) := by decide +kernel
theorem dX5_isNear_39 : decode cX5_isNear 39 = .ok (.aload_n 0, 1) := by decide +kernel
theorem dX5_isNear_40 : decode cX5_isNear 40 = .ok (.getfield 7, 3) := by decide +kernel
theorem dX5_isNear_43 : decode cX5_isNear 43 = .ok (.sipush 596, 3) := by decide +kernel
theorem dX5_isNear_46 : decode cX5_isNear 46 = .ok (.iaload, 1) := by decide +kernel
theorem dX5_isNear_47 : decode cX5_isNear 47 = .ok (.if_icmp .lt 5, 3) := by decide +kernel
theorem dX5_isNear_50 : decode cX5_isNear 50 = .ok (.iconst 0, 1) := by decide +kernel
theorem dX5_isNear_51 : decode cX5_isNear 51 = .ok (.ireturn, 1) := by decide +kernel
theorem dX5_isNear_52 : decode cX5_isNear 52 = .ok (.aload_n 0, 1) := by decide +kernel
theorem dX5_isNear_53 : decode cX5_isNear 53 = .ok (.aload_n 0, 1) := by decide +kernel
theorem dX5_isNear_54 : decode cX5_isNear 54 = .ok (.getfield 7, 3) := by decide +kernel
theorem dX5_isNear_57 : decode cX5_isNear 57 = .ok (.sipush 582, 3) := by decide +kernel
theorem dX5_isNear_60 : decode cX5_isNear 60 = .ok (.iaload, 1) := by decide +kernel
theorem dX5_isNear_61 : decode cX5_isNear 61 = .ok (.invokevirtual 70, 3) := by decide +kernel
theorem dX5_isNear_64 : decode cX5_isNear 64 = .ok (.aload_n 0, 1) := by decide +kernel
theorem dX5_isNear_65 : decode cX5_isNear 65 = .ok (.aload_n 0, 1) := by decide +kernel
theorem dX5_isNear_66 : decode cX5_isNear 66 = .ok (.getfield 46, 3) := by decide +kernel
theorem dX5_isNear_69 : decode cX5_isNear 69 = .ok (.invokestatic 52, 3) := by decide +kernel
theorem dX5_isNear_72 : decode cX5_isNear 72 = .ok (.invokevirtual 155, 3) := by decide +kernel
theorem dX5_isNear_75 : decode cX5_isNear 75 = .ok (.bipush 6, 2) := by decide +kernel
theorem dX5_isNear_77 : decode cX5_isNear 77 = .ok (.if_icmp .gt 7, 3) := by decide +kernel
theorem dX5_isNear_80 : decode cX5_isNear 80 = .ok (.iconst 1, 1) := by decide +kernel
theorem dX5_isNear_81 : decode cX5_isNear 81 = .ok (.goto 4, 3) := by decide +kernel
theorem dX5_isNear_84 : decode cX5_isNear 84 = .ok (.iconst 0, 1) := by decide +kernel
theorem dX5_isNear_85 : decode cX5_isNear 85 = .ok (.ireturn, 1) := by decide +kernel
theorem dX5_keep_0 : decode cX5_keep 0 = .ok (.aload_n 0, 1) := by decide +kernel
theorem dX5_keep_1 : decode cX5_keep 1 = .ok (.getfield 7, 3) := by decide +kernel
theorem dX5_keep_4 : decode cX5_keep 4 = .ok (.sipush 580, 3) := by decide +kernel
theorem dX5_keep_7 : decode cX5_keep 7 = .ok (.iaload, 1) := by decide +kernel
theorem dX5_keep_8 : decode cX5_keep 8 = .ok (.bipush 20, 2) := by decide +kernel
theorem dX5_keep_10 : decode cX5_keep 10 = .ok (.if_icmp .eq 16, 3) := by decide +kernel
theorem dX5_keep_13 : decode cX5_keep 13 = .ok (.aload_n 0, 1) := by decide +kernel
theorem dX5_keep_14 : decode cX5_keep 14 = .ok (.getfield 7, 3) := by decide +kernel
theorem dX5_keep_17 : decode cX5_keep 17 = .ok (.sipush 581, 3) := by decide +kernel
theorem dX5_keep_20 : decode cX5_keep 20 = .ok (.iaload, 1) := by decide +kernel
theorem dX5_keep_21 : decode cX5_keep 21 = .ok (.bipush 99, 2) := by decide +kernel
theorem dX5_keep_23 : decode cX5_keep 23 = .ok (.if_icmp .ne 6, 3) := by decide +kernel
theorem dX5_keep_26 : decode cX5_keep 26 = .ok (.bipush (-4), 2) := by decide +kernel
theorem dX5_keep_28 : decode cX5_keep 28 = .ok (.ireturn, 1) := by decide +kernel
theorem dX5_keep_29 : decode cX5_keep 29 = .ok (.aload_n 0, 1) := by decide +kernel
theorem dX5_keep_30 : decode cX5_keep 30 = .ok (.invokevirtual 137, 3) := by decide +kernel
theorem dX5_keep_33 : decode cX5_keep 33 = .ok (.aload_n 0, 1) := by decide +kernel
theorem dX5_keep_34 : decode cX5_keep 34 = .ok (.invokevirtual 143, 3) := by decide +kernel
theorem dX5_keep_37 : decode cX5_keep 37 = .ok (.aload_n 0, 1) := by decide +kernel
theorem dX5_keep_38 : decode cX5_keep 38 = .ok (.invokevirtual 73, 3) := by decide +kernel
theorem dX5_keep_41 : decode cX5_keep 41 = .ok (.istore_n 1, 1) := by decide +kernel
theorem dX5_keep_42 : decode cX5_keep 42 = .ok (.aload_n 0, 1) := by decide +kernel
theorem dX5_keep_43 : decode cX5_keep 43 = .ok (.invokevirtual 158, 3) := by decide +kernel
theorem dX5_keep_46 : decode cX5_keep 46 = .ok (.istore_n 2, 1) := by decide +kernel
theorem dX5_keep_47 : decode cX5_keep 47 = .ok (.aload_n 0, 1) := by decide +kernel
theorem dX5_keep_48 : decode cX5_keep 48 = .ok (.getfield 7, 3) := by decide +kernel
theorem dX5_keep_51 : decode cX5_keep 51 = .ok (.sipush 580, 3) := by decide +kernel
theorem dX5_keep_54 : decode cX5_keep 54 = .ok (.iaload, 1) := by decide +kernel
theorem dX5_keep_55 : decode cX5_keep 55 = .ok (.istore_n 3, 1) := by decide +kernel
theorem dX5_keep_56 : decode cX5_keep 56 = .ok (.aload_n 0, 1) := by decide +kernel
theorem dX5_keep_57 : decode cX5_keep 57 = .ok (.iload_n 3, 1) := by decide +kernel
theorem dX5_keep_58 : decode cX5_keep 58 = .ok (.iconst 0, 1) := by decide +kernel
theorem dX5_keep_59 : decode cX5_keep 59 = .ok (.aload_n 0, 1) := by decide +kernel
theorem dX5_keep_60 : decode cX5_keep 60 = .ok (.getfield 7, 3) := by decide +kernel
theorem dX5_keep_63 : decode cX5_keep 63 = .ok (.sipush 581, 3) := by decide +kernel
theorem dX5_keep_66 : decode cX5_keep 66 = .ok (.iaload, 1) := by decide +kernel
theorem dX5_keep_67 : decode cX5_keep 67 = .ok (.invokevirtual 77, 3) := by decide +kernel
theorem dX5_keep_70 : decode cX5_keep 70 = .ok (.aload_n 0, 1) := by decide +kernel
theorem dX5_keep_71 : decode cX5_keep 71 = .ok (.iload_n 3, 1) := by decide +kernel
theorem dX5_keep_72 : decode cX5_keep 72 = .ok (.iconst 1, 1) := by decide +kernel
theorem dX5_keep_73 : decode cX5_keep 73 = .ok (.aload_n 0, 1) := by decide +kernel
theorem dX5_keep_74 : decode cX5_keep 74 = .ok (.getfield 7, 3) := by decide +kernel
theorem dX5_keep_77 : decode cX5_keep 77 = .ok (.sipush 582, 3) := by decide +kernel
theorem dX5_keep_80 : decode cX5_keep 80 = .ok (.iaload, 1) := by decide +kernel
theorem dX5_keep_81 : decode cX5_keep 81 = .ok (.invokevirtual 77, 3) := by decide +kernel
theorem dX5_keep_84 : decode cX5_keep 84 = .ok (.aload_n 0, 1) := by decide +kernel
theorem dX5_keep_85 : decode cX5_keep 85 = .ok (.iload_n 3, 1) := by decide +kernel
theorem dX5_keep_86 : decode cX5_keep 86 = .ok (.iconst 2, 1) := by decide +kernel
theorem dX5_keep_87 : decode cX5_keep 87 = .ok (.iload_n 1, 1) := by decide +kernel
theorem dX5_keep_88 : decode cX5_keep 88 = .ok (.invokevirtual 77, 3) := by decide +kernel
theorem dX5_keep_91 : decode cX5_keep 91 = .ok (.iload_n 2, 1) := by decide +kernel
theorem dX5_keep_92 : decode cX5_keep 92 = .ok (.ifCond .eq 19, 3) := by decide +kernel
theorem dX5_keep_95 : decode cX5_keep 95 = .ok (.aload_n 0, 1) := by decide +kernel
theorem dX5_keep_96 : decode cX5_keep 96 = .ok (.iload_n 3, 1) := by decide +kernel
theorem dX5_keep_97 : decode cX5_keep 97 = .ok (.aload_n 0, 1) := by decide +kernel
theorem dX5_keep_98 : decode cX5_keep 98 = .ok (.getfield 7, 3) := by decide +kernel
theorem dX5_keep_101 : decode cX5_keep 101 = .ok (.sipush 595, 3) := by decide +kernel
theorem dX5_keep_104 : decode cX5_keep 104 = .ok (.iaload, 1) := by decide +kernel
theorem dX5_keep_105 : decode cX5_keep 105 = .ok (.invokevirtual 161, 3) := by decide +kernel
theorem dX5_keep_108 : decode cX5_keep 108 = .ok (.goto 8, 3) := by decide +kernel
theorem dX5_keep_111 : decode cX5_keep 111 = .ok (.aload_n 0, 1) := by decide +kernel
theorem dX5_keep_112 : decode cX5_keep 112 = .ok (.iload_n 3, 1) := by decide +kernel
theorem dX5_keep_113 : decode cX5_keep 113 = .ok (.invokevirtual 164, 3) := by decide +kernel
theorem dX5_keep_116 : decode cX5_keep 116 = .ok (.aload_n 0, 1) := by decide +kernel
theorem dX5_keep_117 : decode cX5_keep 117 = .ok (.getfield 7, 3) := by decide +kernel
theorem dX5_keep_120 : decode cX5_keep 120 = .ok (.sipush 580, 3) := by decide +kernel
theorem dX5_keep_123 : decode cX5_keep 123 = .ok (.dup2, 1) := by decide +kernel
theorem dX5_keep_124 : decode cX5_keep 124 = .ok (.iaload, 1) := by decide +kernel
theorem dX5_keep_125 : decode cX5_keep 125 = .ok (.iconst 1, 1) := by decide +kernel
theorem dX5_keep_126 : decode cX5_keep 126 = .ok (.iadd, 1) := by decide +kernel
theorem dX5_keep_127 : decode cX5_keep 127 = .ok (.iastore, 1) := by decide +kernel
theorem dX5_keep_128 : decode cX5_keep 128 = .ok (.aload_n 0, 1) := by decide +kernel
theorem dX5_keep_129 : decode cX5_keep 129 = .ok (.getfield 7, 3) := by decide +kernel
theorem dX5_keep_132 : decode cX5_keep 132 = .ok (.sipush 595, 3) := by decide +kernel
theorem dX5_keep_135 : decode cX5_keep 135 = .ok (.aload_n 0, 1) := by decide +kernel
theorem dX5_keep_136 : decode cX5_keep 136 = .ok (.getfield 7, 3) := by decide +kernel
theorem dX5_keep_139 : decode cX5_keep 139 = .ok (.sipush 581, 3) := by decide +kernel
theorem dX5_keep_142 : decode cX5_keep 142 = .ok (.iaload, 1) := by decide +kernel
theorem dX5_keep_143 : decode cX5_keep 143 = .ok (.iastore, 1) := by decide +kernel
theorem dX5_keep_144 : decode cX5_keep 144 = .ok (.aload_n 0, 1) := by decide +kernel
theorem dX5_keep_145 : decode cX5_keep 145 = .ok (.getfield 7, 3) := by decide +kernel
theorem dX5_keep_148 : decode cX5_keep 148 = .ok (.sipush 581, 3) := by decide +kernel
theorem dX5_keep_151 : decode cX5_keep 151 = .ok (.dup2, 1) := by decide +kernel
theorem dX5_keep_152 : decode cX5_keep 152 = .ok (.iaload, 1) := by decide +kernel
theorem dX5_keep_153 : decode cX5_keep 153 = .ok (.iconst 1, 1) := by decide +kernel
theorem dX5_keep_154 : decode cX5_keep 154 = .ok (.iadd, 1) := by decide +kernel
theorem dX5_keep_155 : decode cX5_keep 155 = .ok (.iastore, 1) := by decide +kernel
theorem dX5_keep_156 : decode cX5_keep 156 = .ok (.aload_n 0, 1) := by decide +kernel
theorem dX5_keep_157 : decode cX5_keep 157 = .ok (.getfield 7, 3) := by decide +kernel
theorem dX5_keep_160 : decode cX5_keep 160 = .ok (.sipush 595, 3) := by decide +kernel
theorem dX5_keep_163 : decode cX5_keep 163 = .ok (.iaload, 1) := by decide +kernel
theorem dX5_keep_164 : decode cX5_keep 164 = .ok (.ireturn, 1) := by decide +kernel
theorem dX5_load_0 : decode cX5_load 0 = .ok (.aload_n 0, 1) := by decide +kernel
theorem dX5_load_1 : decode cX5_load 1 = .ok (.iload_n 1, 1) := by decide +kernel
theorem dX5_load_2 : decode cX5_load 2 = .ok (.invokevirtual 59, 3) := by decide +kernel
theorem dX5_load_5 : decode cX5_load 5 = .ok (.iconst (-1), 1) := by decide +kernel
theorem dX5_load_6 : decode cX5_load 6 = .ok (.if_icmp .ne 6, 3) := by decide +kernel
theorem dX5_load_9 : decode cX5_load 9 = .ok (.bipush (-2), 2) := by decide +kernel
theorem dX5_load_11 : decode cX5_load 11 = .ok (.ireturn, 1) := by decide +kernel
theorem dX5_load_12 : decode cX5_load 12 = .ok (.aload_n 0, 1) := by decide +kernel
theorem dX5_load_13 : decode cX5_load 13 = .ok (.iload_n 1, 1) := by decide +kernel
theorem dX5_load_14 : decode cX5_load 14 = .ok (.invokevirtual 152, 3) := by decide +kernel
theorem dX5_load_17 : decode cX5_load 17 = .ok (.ifCond .ne 6, 3) := by decide +kernel
theorem dX5_load_20 : decode cX5_load 20 = .ok (.bipush (-3), 2) := by decide +kernel
theorem dX5_load_22 : decode cX5_load 22 = .ok (.ireturn, 1) := by decide +kernel
theorem dX5_load_23 : decode cX5_load 23 = .ok (.aload_n 0, 1) := by decide +kernel
theorem dX5_load_24 : decode cX5_load 24 = .ok (.invokevirtual 137, 3) := by decide +kernel
theorem dX5_load_27 : decode cX5_load 27 = .ok (.aload_n 0, 1) := by decide +kernel
theorem dX5_load_28 : decode cX5_load 28 = .ok (.getfield 7, 3) := by decide +kernel
theorem dX5_load_31 : decode cX5_load 31 = .ok (.sipush 597, 3) := by decide +kernel
theorem dX5_load_34 : decode cX5_load 34 = .ok (.iaload, 1) := by decide +kernel
theorem dX5_load_35 : decode cX5_load 35 = .ok (.iconst 1, 1) := by decide +kernel
theorem dX5_load_36 : decode cX5_load 36 = .ok (.if_icmp .ne 15, 3) := by decide +kernel
theorem dX5_load_39 : decode cX5_load 39 = .ok (.aload_n 0, 1) := by decide +kernel
theorem dX5_load_40 : decode cX5_load 40 = .ok (.aload_n 0, 1) := by decide +kernel
theorem dX5_load_41 : decode cX5_load 41 = .ok (.getfield 7, 3) := by decide +kernel
theorem dX5_load_44 : decode cX5_load 44 = .ok (.sipush 582, 3) := by decide +kernel
theorem dX5_load_47 : decode cX5_load 47 = .ok (.iaload, 1) := by decide +kernel
theorem dX5_load_48 : decode cX5_load 48 = .ok (.invokevirtual 70, 3) := by decide +kernel
theorem dX5_load_51 : decode cX5_load 51 = .ok (.aload_n 0, 1) := by decide +kernel
theorem dX5_load_52 : decode cX5_load 52 = .ok (.invokevirtual 146, 3) := by decide +kernel
theorem dX5_load_55 : decode cX5_load 55 = .ok (.aload_n 0, 1) := by decide +kernel
theorem dX5_load_56 : decode cX5_load 56 = .ok (.getfield 7, 3) := by decide +kernel
theorem dX5_load_59 : decode cX5_load 59 = .ok (.sipush 595, 3) := by decide +kernel
theorem dX5_load_62 : decode cX5_load 62 = .ok (.iload_n 1, 1) := by decide +kernel
theorem dX5_load_63 : decode cX5_load 63 = .ok (.iastore, 1) := by decide +kernel
theorem dX5_load_64 : decode cX5_load 64 = .ok (.aload_n 0, 1) := by decide +kernel
theorem dX5_load_65 : decode cX5_load 65 = .ok (.getfield 46, 3) := by decide +kernel
theorem dX5_load_68 : decode cX5_load 68 = .ok (.ireturn, 1) := by decide +kernel
theorem dX5_basedOn_0 : decode cX5_basedOn 0 = .ok (.iconst 0, 1) := by decide +kernel
theorem dX5_basedOn_1 : decode cX5_basedOn 1 = .ok (.istore_n 2, 1) := by decide +kernel
theorem dX5_basedOn_2 : decode cX5_basedOn 2 = .ok (.iconst 0, 1) := by decide +kernel
theorem dX5_basedOn_3 : decode cX5_basedOn 3 = .ok (.istore_n 3, 1) := by decide +kernel
theorem dX5_basedOn_4 : decode cX5_basedOn 4 = .ok (.iload_n 3, 1) := by decide +kernel
theorem dX5_basedOn_5 : decode cX5_basedOn 5 = .ok (.aload_n 0, 1) := by decide +kernel
theorem dX5_basedOn_6 : decode cX5_basedOn 6 = .ok (.getfield 7, 3) := by decide +kernel
theorem dX5_basedOn_9 : decode cX5_basedOn 9 = .ok (.sipush 580, 3) := by decide +kernel
theorem dX5_basedOn_12 : decode cX5_basedOn 12 = .ok (.iaload, 1) := by decide +kernel
theorem dX5_basedOn_13 : decode cX5_basedOn 13 = .ok (.if_icmp .ge 27, 3) := by decide +kernel
theorem dX5_basedOn_16 : decode cX5_basedOn 16 = .ok (.iload_n 2, 1) := by decide +kernel
theorem dX5_basedOn_17 : decode cX5_basedOn 17 = .ok (.aload_n 0, 1) := by decide +kernel
theorem dX5_basedOn_18 : decode cX5_basedOn 18 = .ok (.iload_n 3, 1) := by decide +kernel
theorem dX5_basedOn_19 : decode cX5_basedOn 19 = .ok (.iconst 3, 1) := by decide +kernel
theorem dX5_basedOn_20 : decode cX5_basedOn 20 = .ok (.invokevirtual 38, 3) := by decide +kernel
theorem dX5_basedOn_23 : decode cX5_basedOn 23 = .ok (.iload_n 1, 1) := by decide +kernel
theorem dX5_basedOn_24 : decode cX5_basedOn 24 = .ok (.if_icmp .ne 7, 3) := by decide +kernel
theorem dX5_basedOn_27 : decode cX5_basedOn 27 = .ok (.iconst 1, 1) := by decide +kernel
theorem dX5_basedOn_28 : decode cX5_basedOn 28 = .ok (.goto 4, 3) := by decide +kernel
theorem dX5_basedOn_31 : decode cX5_basedOn 31 = .ok (.iconst 0, 1) := by decide +kernel
theorem dX5_basedOn_32 : decode cX5_basedOn 32 = .ok (.iadd, 1) := by decide +kernel
theorem dX5_basedOn_33 : decode cX5_basedOn 33 = .ok (.istore_n 2, 1) := by decide +kernel
theorem dX5_basedOn_34 : decode cX5_basedOn 34 = .ok (.iinc 3 1, 3) := by decide +kernel
theorem dX5_basedOn_37 : decode cX5_basedOn 37 = .ok (.goto (-33), 3) := by decide +kernel
theorem dX5_basedOn_40 : decode cX5_basedOn 40 = .ok (.iload_n 2, 1) := by decide +kernel
theorem dX5_basedOn_41 : decode cX5_basedOn 41 = .ok (.ireturn, 1) := by decide +kernel
theorem dX5_drop_0 : decode cX5_drop 0 = .ok (.aload_n 0, 1) := by decide +kernel
theorem dX5_drop_1 : decode cX5_drop 1 = .ok (.iload_n 1, 1) := by decide +kernel
theorem dX5_drop_2 : decode cX5_drop 2 = .ok (.invokevirtual 59, 3) := by decide +kernel
theorem dX5_drop_5 : decode cX5_drop 5 = .ok (.istore_n 3, 1) := by decide +kernel
theorem dX5_drop_6 : decode cX5_drop 6 = .ok (.iload_n 3, 1) := by decide +kernel
theorem dX5_drop_7 : decode cX5_drop 7 = .ok (.iconst (-1), 1) := by decide +kernel
theorem dX5_drop_8 : decode cX5_drop 8 = .ok (.if_icmp .ne 6, 3) := by decide +kernel
theorem dX5_drop_11 : decode cX5_drop 11 = .ok (.bipush (-2), 2) := by decide +kernel
theorem dX5_drop_13 : decode cX5_drop 13 = .ok (.ireturn, 1) := by decide +kernel
theorem dX5_drop_14 : decode cX5_drop 14 = .ok (.aload_n 0, 1) := by decide +kernel
theorem dX5_drop_15 : decode cX5_drop 15 = .ok (.invokevirtual 137, 3) := by decide +kernel
theorem dX5_drop_18 : decode cX5_drop 18 = .ok (.iconst 0, 1) := by decide +kernel
theorem dX5_drop_19 : decode cX5_drop 19 = .ok (.istore 4, 2) := by decide +kernel
theorem dX5_drop_21 : decode cX5_drop 21 = .ok (.iload 4, 2) := by decide +kernel
theorem dX5_drop_23 : decode cX5_drop 23 = .ok (.aload_n 0, 1) := by decide +kernel
theorem dX5_drop_24 : decode cX5_drop 24 = .ok (.getfield 7, 3) := by decide +kernel
theorem dX5_drop_27 : decode cX5_drop 27 = .ok (.sipush 580, 3) := by decide +kernel
theorem dX5_drop_30 : decode cX5_drop 30 = .ok (.iaload, 1) := by decide +kernel
theorem dX5_drop_31 : decode cX5_drop 31 = .ok (.if_icmp .ge 48, 3) := by decide +kernel
theorem dX5_drop_34 : decode cX5_drop 34 = .ok (.iload_n 2, 1) := by decide +kernel
theorem dX5_drop_35 : decode cX5_drop 35 = .ok (.ifCond .eq 44, 3) := by decide +kernel
theorem dX5_drop_38 : decode cX5_drop 38 = .ok (.aload_n 0, 1) := by decide +kernel
theorem dX5_drop_39 : decode cX5_drop 39 = .ok (.iload 4, 2) := by decide +kernel
theorem dX5_drop_41 : decode cX5_drop 41 = .ok (.iconst 3, 1) := by decide +kernel
theorem dX5_drop_42 : decode cX5_drop 42 = .ok (.invokevirtual 38, 3) := by decide +kernel
theorem dX5_drop_45 : decode cX5_drop 45 = .ok (.iload_n 1, 1) := by decide +kernel
theorem dX5_drop_46 : decode cX5_drop 46 = .ok (.if_icmp .ne 27, 3) := by decide +kernel
theorem dX5_drop_49 : decode cX5_drop 49 = .ok (.aload_n 0, 1) := by decide +kernel
theorem dX5_drop_50 : decode cX5_drop 50 = .ok (.aload_n 0, 1) := by decide +kernel
theorem dX5_drop_51 : decode cX5_drop 51 = .ok (.iload 4, 2) := by decide +kernel
theorem dX5_drop_53 : decode cX5_drop 53 = .ok (.iconst 0, 1) := by decide +kernel
theorem dX5_drop_54 : decode cX5_drop 54 = .ok (.invokevirtual 38, 3) := by decide +kernel
theorem dX5_drop_57 : decode cX5_drop 57 = .ok (.invokevirtual 152, 3) := by decide +kernel
theorem dX5_drop_60 : decode cX5_drop 60 = .ok (.ifCond .eq 13, 3) := by decide +kernel
theorem dX5_drop_63 : decode cX5_drop 63 = .ok (.aload_n 0, 1) := by decide +kernel
theorem dX5_drop_64 : decode cX5_drop 64 = .ok (.invokevirtual 149, 3) := by decide +kernel
theorem dX5_drop_67 : decode cX5_drop 67 = .ok (.aload_n 0, 1) := by decide +kernel
theorem dX5_drop_68 : decode cX5_drop 68 = .ok (.iload 4, 2) := by decide +kernel
theorem dX5_drop_70 : decode cX5_drop 70 = .ok (.invokevirtual 164, 3) := by decide +kernel
theorem dX5_drop_73 : decode cX5_drop 73 = .ok (.iinc 4 1, 3) := by decide +kernel
theorem dX5_drop_76 : decode cX5_drop 76 = .ok (.goto (-55), 3) := by decide +kernel
theorem dX5_drop_79 : decode cX5_drop 79 = .ok (.aload_n 0, 1) := by decide +kernel
theorem dX5_drop_80 : decode cX5_drop 80 = .ok (.getfield 7, 3) := by decide +kernel
theorem dX5_drop_83 : decode cX5_drop 83 = .ok (.sipush 580, 3) := by decide +kernel
theorem dX5_drop_86 : decode cX5_drop 86 = .ok (.dup2, 1) := by decide +kernel
theorem dX5_drop_87 : decode cX5_drop 87 = .ok (.iaload, 1) := by decide +kernel
theorem dX5_drop_88 : decode cX5_drop 88 = .ok (.iconst 1, 1) := by decide +kernel
theorem dX5_drop_89 : decode cX5_drop 89 = .ok (.isub, 1) := by decide +kernel
theorem dX5_drop_90 : decode cX5_drop 90 = .ok (.iastore, 1) := by decide +kernel
theorem dX5_drop_91 : decode cX5_drop 91 = .ok (.bipush 29, 2) := by decide +kernel
theorem dX5_drop_93 : decode cX5_drop 93 = .ok (.iload_n 3, 1) := by decide +kernel
theorem dX5_drop_94 : decode cX5_drop 94 = .ok (.imul, 1) := by decide +kernel
theorem dX5_drop_95 : decode cX5_drop 95 = .ok (.istore 4, 2) := by decide +kernel
theorem dX5_drop_97 : decode cX5_drop 97 = .ok (.iload 4, 2) := by decide +kernel
theorem dX5_drop_99 : decode cX5_drop 99 = .ok (.bipush 29, 2) := by decide +kernel
theorem dX5_drop_101 : decode cX5_drop 101 = .ok (.aload_n 0, 1) := by decide +kernel
theorem dX5_drop_102 : decode cX5_drop 102 = .ok (.getfield 7, 3) := by decide +kernel
theorem dX5_drop_105 : decode cX5_drop 105 = .ok (.sipush 580, 3) := by decide +kernel
theorem dX5_drop_108 : decode cX5_drop 108 = .ok (.iaload, 1) := by decide +kernel
theorem dX5_drop_109 : decode cX5_drop 109 = .ok (.imul, 1) := by decide +kernel
theorem dX5_drop_110 : decode cX5_drop 110 = .ok (.if_icmp .ge 26, 3) := by decide +kernel
theorem dX5_drop_113 : decode cX5_drop 113 = .ok (.aload_n 0, 1) := by decide +kernel
theorem dX5_drop_114 : decode cX5_drop 114 = .ok (.getfield 7, 3) := by decide +kernel
theorem dX5_drop_117 : decode cX5_drop 117 = .ok (.iload 4, 2) := by decide +kernel
theorem dX5_drop_119 : decode cX5_drop 119 = .ok (.aload_n 0, 1) := by decide +kernel
theorem dX5_drop_120 : decode cX5_drop 120 = .ok (.getfield 7, 3) := by decide +kernel
theorem dX5_drop_123 : decode cX5_drop 123 = .ok (.iload 4, 2) := by decide +kernel
theorem dX5_drop_125 : decode cX5_drop 125 = .ok (.bipush 29, 2) := by decide +kernel
theorem dX5_drop_127 : decode cX5_drop 127 = .ok (.iadd, 1) := by decide +kernel
theorem dX5_drop_128 : decode cX5_drop 128 = .ok (.iaload, 1) := by decide +kernel
theorem dX5_drop_129 : decode cX5_drop 129 = .ok (.iastore, 1) := by decide +kernel
theorem dX5_drop_130 : decode cX5_drop 130 = .ok (.iinc 4 1, 3) := by decide +kernel
theorem dX5_drop_133 : decode cX5_drop 133 = .ok (.goto (-36), 3) := by decide +kernel
theorem dX5_drop_136 : decode cX5_drop 136 = .ok (.aload_n 0, 1) := by decide +kernel
theorem dX5_drop_137 : decode cX5_drop 137 = .ok (.getfield 7, 3) := by decide +kernel
theorem dX5_drop_140 : decode cX5_drop 140 = .ok (.sipush 595, 3) := by decide +kernel
theorem dX5_drop_143 : decode cX5_drop 143 = .ok (.aload_n 0, 1) := by decide +kernel
theorem dX5_drop_144 : decode cX5_drop 144 = .ok (.getfield 7, 3) := by decide +kernel
theorem dX5_drop_147 : decode cX5_drop 147 = .ok (.sipush 595, 3) := by decide +kernel
theorem dX5_drop_150 : decode cX5_drop 150 = .ok (.iaload, 1) := by decide +kernel
theorem dX5_drop_151 : decode cX5_drop 151 = .ok (.iload_n 1, 1) := by decide +kernel
theorem dX5_drop_152 : decode cX5_drop 152 = .ok (.if_icmp .ne 7, 3) := by decide +kernel
theorem dX5_drop_155 : decode cX5_drop 155 = .ok (.iconst (-1), 1) := by decide +kernel
theorem dX5_drop_156 : decode cX5_drop 156 = .ok (.goto 11, 3) := by decide +kernel
theorem dX5_drop_159 : decode cX5_drop 159 = .ok (.aload_n 0, 1) := by decide +kernel
theorem dX5_drop_160 : decode cX5_drop 160 = .ok (.getfield 7, 3) := by decide +kernel
theorem dX5_drop_163 : decode cX5_drop 163 = .ok (.sipush 595, 3) := by decide +kernel
theorem dX5_drop_166 : decode cX5_drop 166 = .ok (.iaload, 1) := by decide +kernel
theorem dX5_drop_167 : decode cX5_drop 167 = .ok (.iastore, 1) := by decide +kernel
theorem dX5_drop_168 : decode cX5_drop 168 = .ok (.aload_n 0, 1) := by decide +kernel
theorem dX5_drop_169 : decode cX5_drop 169 = .ok (.iload_n 1, 1) := by decide +kernel
theorem dX5_drop_170 : decode cX5_drop 170 = .ok (.invokevirtual 167, 3) := by decide +kernel
theorem dX5_drop_173 : decode cX5_drop 173 = .ok (.ireturn, 1) := by decide +kernel
theorem dX5_alter_0 : decode cX5_alter 0 = .ok (.aload_n 0, 1) := by decide +kernel
theorem dX5_alter_1 : decode cX5_alter 1 = .ok (.iload_n 1, 1) := by decide +kernel
theorem dX5_alter_2 : decode cX5_alter 2 = .ok (.invokevirtual 59, 3) := by decide +kernel
theorem dX5_alter_5 : decode cX5_alter 5 = .ok (.istore 4, 2) := by decide +kernel
theorem dX5_alter_7 : decode cX5_alter 7 = .ok (.iload 4, 2) := by decide +kernel
theorem dX5_alter_9 : decode cX5_alter 9 = .ok (.iconst (-1), 1) := by decide +kernel
theorem dX5_alter_10 : decode cX5_alter 10 = .ok (.if_icmp .eq 30, 3) := by decide +kernel
theorem dX5_alter_13 : decode cX5_alter 13 = .ok (.iload_n 2, 1) := by decide +kernel
theorem dX5_alter_14 : decode cX5_alter 14 = .ok (.iconst 0, 1) := by decide +kernel
theorem dX5_alter_15 : decode cX5_alter 15 = .ok (.aload_n 0, 1) := by decide +kernel
theorem dX5_alter_16 : decode cX5_alter 16 = .ok (.iload 4, 2) := by decide +kernel
theorem dX5_alter_18 : decode cX5_alter 18 = .ok (.iconst 4, 1) := by decide +kernel
theorem dX5_alter_19 : decode cX5_alter 19 = .ok (.invokevirtual 38, 3) := by decide +kernel
theorem dX5_alter_22 : decode cX5_alter 22 = .ok (.iconst 1, 1) := by decide +kernel
theorem dX5_alter_23 : decode cX5_alter 23 = .ok (.isub, 1) := by decide +kernel
theorem dX5_alter_24 : decode cX5_alter 24 = .ok (.invokestatic 81, 3) := by decide +kernel
theorem dX5_alter_27 : decode cX5_alter 27 = .ok (.ifCond .eq 13, 3) := by decide +kernel
theorem dX5_alter_30 : decode cX5_alter 30 = .ok (.iload_n 3, 1) := by decide +kernel
theorem dX5_alter_31 : decode cX5_alter 31 = .ok (.iconst 0, 1) := by decide +kernel
theorem dX5_alter_32 : decode cX5_alter 32 = .ok (.bipush 99, 2) := by decide +kernel
theorem dX5_alter_34 : decode cX5_alter 34 = .ok (.invokestatic 81, 3) := by decide +kernel
theorem dX5_alter_37 : decode cX5_alter 37 = .ok (.ifCond .ne 6, 3) := by decide +kernel
theorem dX5_alter_40 : decode cX5_alter 40 = .ok (.bipush (-2), 2) := by decide +kernel
theorem dX5_alter_42 : decode cX5_alter 42 = .ok (.ireturn, 1) := by decide +kernel
theorem dX5_alter_43 : decode cX5_alter 43 = .ok (.aload_n 0, 1) := by decide +kernel
theorem dX5_alter_44 : decode cX5_alter 44 = .ok (.invokevirtual 137, 3) := by decide +kernel
theorem dX5_alter_47 : decode cX5_alter 47 = .ok (.aload_n 0, 1) := by decide +kernel
theorem dX5_alter_48 : decode cX5_alter 48 = .ok (.iload 4, 2) := by decide +kernel
theorem dX5_alter_50 : decode cX5_alter 50 = .ok (.bipush 17, 2) := by decide +kernel
theorem dX5_alter_52 : decode cX5_alter 52 = .ok (.iload_n 2, 1) := by decide +kernel
theorem dX5_alter_53 : decode cX5_alter 53 = .ok (.iadd, 1) := by decide +kernel
theorem dX5_alter_54 : decode cX5_alter 54 = .ok (.invokevirtual 38, 3) := by decide +kernel
theorem dX5_alter_57 : decode cX5_alter 57 = .ok (.istore 5, 2) := by decide +kernel
theorem dX5_alter_59 : decode cX5_alter 59 = .ok (.aload_n 0, 1) := by decide +kernel
theorem dX5_alter_60 : decode cX5_alter 60 = .ok (.iload 4, 2) := by decide +kernel
theorem dX5_alter_62 : decode cX5_alter 62 = .ok (.bipush 17, 2) := by decide +kernel
theorem dX5_alter_64 : decode cX5_alter 64 = .ok (.iload_n 2, 1) := by decide +kernel
theorem dX5_alter_65 : decode cX5_alter 65 = .ok (.iadd, 1) := by decide +kernel
theorem dX5_alter_66 : decode cX5_alter 66 = .ok (.iload_n 3, 1) := by decide +kernel
theorem dX5_alter_67 : decode cX5_alter 67 = .ok (.invokevirtual 77, 3) := by decide +kernel
theorem dX5_alter_70 : decode cX5_alter 70 = .ok (.iload 5, 2) := by decide +kernel
theorem dX5_alter_72 : decode cX5_alter 72 = .ok (.ireturn, 1) := by decide +kernel
theorem dX5_weight_0 : decode cX5_weight 0 = .ok (.aload_n 0, 1) := by decide +kernel
theorem dX5_weight_1 : decode cX5_weight 1 = .ok (.iload_n 1, 1) := by decide +kernel
theorem dX5_weight_2 : decode cX5_weight 2 = .ok (.invokevirtual 66, 3) := by decide +kernel
theorem dX5_weight_5 : decode cX5_weight 5 = .ok (.ifCond .eq 12, 3) := by decide +kernel
theorem dX5_weight_8 : decode cX5_weight 8 = .ok (.aload_n 0, 1) := by decide +kernel
theorem dX5_weight_9 : decode cX5_weight 9 = .ok (.iload_n 1, 1) := by decide +kernel
theorem dX5_weight_10 : decode cX5_weight 10 = .ok (.iconst 4, 1) := by decide +kernel
theorem dX5_weight_11 : decode cX5_weight 11 = .ok (.invokevirtual 38, 3) := by decide +kernel
theorem dX5_weight_14 : decode cX5_weight 14 = .ok (.goto 13, 3) := by decide +kernel
theorem dX5_weight_17 : decode cX5_weight 17 = .ok (.iconst 2, 1) := by decide +kernel
theorem dX5_weight_18 : decode cX5_weight 18 = .ok (.iconst 2, 1) := by decide +kernel
theorem dX5_weight_19 : decode cX5_weight 19 = .ok (.aload_n 0, 1) := by decide +kernel
theorem dX5_weight_20 : decode cX5_weight 20 = .ok (.iload_n 1, 1) := by decide +kernel
theorem dX5_weight_21 : decode cX5_weight 21 = .ok (.iconst 4, 1) := by decide +kernel
theorem dX5_weight_22 : decode cX5_weight 22 = .ok (.invokevirtual 38, 3) := by decide +kernel
theorem dX5_weight_25 : decode cX5_weight 25 = .ok (.imul, 1) := by decide +kernel
theorem dX5_weight_26 : decode cX5_weight 26 = .ok (.iadd, 1) := by decide +kernel
theorem dX5_weight_27 : decode cX5_weight 27 = .ok (.ireturn, 1) := by decide +kernel
theorem dX5_weights_0 : decode cX5_weights 0 = .ok (.iconst 0, 1) := by decide +kernel
theorem dX5_weights_1 : decode cX5_weights 1 = .ok (.istore_n 1, 1) := by decide +kernel
theorem dX5_weights_2 : decode cX5_weights 2 = .ok (.iconst 0, 1) := by decide +kernel
theorem dX5_weights_3 : decode cX5_weights 3 = .ok (.istore_n 2, 1) := by decide +kernel
theorem dX5_weights_4 : decode cX5_weights 4 = .ok (.iload_n 2, 1) := by decide +kernel
theorem dX5_weights_5 : decode cX5_weights 5 = .ok (.aload_n 0, 1) := by decide +kernel
theorem dX5_weights_6 : decode cX5_weights 6 = .ok (.getfield 7, 3) := by decide +kernel
theorem dX5_weights_9 : decode cX5_weights 9 = .ok (.sipush 580, 3) := by decide +kernel
theorem dX5_weights_12 : decode cX5_weights 12 = .ok (.iaload, 1) := by decide +kernel
theorem dX5_weights_13 : decode cX5_weights 13 = .ok (.if_icmp .ge 17, 3) := by decide +kernel
theorem dX5_weights_16 : decode cX5_weights 16 = .ok (.iload_n 1, 1) := by decide +kernel
theorem dX5_weights_17 : decode cX5_weights 17 = .ok (.aload_n 0, 1) := by decide +kernel
theorem dX5_weights_18 : decode cX5_weights 18 = .ok (.iload_n 2, 1) := by decide +kernel
theorem dX5_weights_19 : decode cX5_weights 19 = .ok (.invokevirtual 170, 3) := by decide +kernel
theorem dX5_weights_22 : decode cX5_weights 22 = .ok (.iadd, 1) := by decide +kernel
theorem dX5_weights_23 : decode cX5_weights 23 = .ok (.istore_n 1, 1) := by decide +kernel
theorem dX5_weights_24 : decode cX5_weights 24 = .ok (.iinc 2 1, 3) := by decide +kernel
theorem dX5_weights_27 : decode cX5_weights 27 = .ok (.goto (-23), 3) := by decide +kernel
theorem dX5_weights_30 : decode cX5_weights 30 = .ok (.iload_n 1, 1) := by decide +kernel
theorem dX5_weights_31 : decode cX5_weights 31 = .ok (.ireturn, 1) := by decide +kernel
theorem dX5_nearestBase_0 : decode cX5_nearestBase 0 = .ok (.iconst (-1), 1) := by decide +kernel
theorem dX5_nearestBase_1 : decode cX5_nearestBase 1 = .ok (.istore_n 2, 1) := by decide +kernel
theorem dX5_nearestBase_2 : decode cX5_nearestBase 2 = .ok (.bipush 7, 2) := by decide +kernel
theorem dX5_nearestBase_4 : decode cX5_nearestBase 4 = .ok (.istore_n 3, 1) := by decide +kernel
theorem dX5_nearestBase_5 : decode cX5_nearestBase 5 = .ok (.iconst 0, 1) := by decide +kernel
theorem dX5_nearestBase_6 : decode cX5_nearestBase 6 = .ok (.istore 4, 2) := by decide +kernel
theorem dX5_nearestBase_8 : decode cX5_nearestBase 8 = .ok (.iload 4, 2) := by decide +kernel
theorem dX5_nearestBase_10 : decode cX5_nearestBase 10 = .ok (.iload_n 1, 1) := by decide +kernel
theorem dX5_nearestBase_11 : decode cX5_nearestBase 11 = .ok (.if_icmp .ge 120, 3) := by decide +kernel
theorem dX5_nearestBase_14 : decode cX5_nearestBase 14 = .ok (.aload_n 0, 1) := by decide +kernel
theorem dX5_nearestBase_15 : decode cX5_nearestBase 15 = .ok (.getfield 34, 3) := by decide +kernel
theorem dX5_nearestBase_18 : decode cX5_nearestBase 18 = .ok (.iload 4, 2) := by decide +kernel
theorem dX5_nearestBase_20 : decode cX5_nearestBase 20 = .ok (.baload, 1) := by decide +kernel
theorem dX5_nearestBase_21 : decode cX5_nearestBase 21 = .ok (.ifCond .eq 104, 3) := by decide +kernel
theorem dX5_nearestBase_24 : decode cX5_nearestBase 24 = .ok (.aload_n 0, 1) := by decide +kernel
theorem dX5_nearestBase_25 : decode cX5_nearestBase 25 = .ok (.iload 4, 2) := by decide +kernel
theorem dX5_nearestBase_27 : decode cX5_nearestBase 27 = .ok (.iconst 1, 1) := by decide +kernel
theorem dX5_nearestBase_28 : decode cX5_nearestBase 28 = .ok (.invokevirtual 38, 3) := by decide +kernel
theorem dX5_nearestBase_31 : decode cX5_nearestBase 31 = .ok (.aload_n 0, 1) := by decide +kernel
theorem dX5_nearestBase_32 : decode cX5_nearestBase 32 = .ok (.iload_n 1, 1) := by decide +kernel
theorem dX5_nearestBase_33 : decode cX5_nearestBase 33 = .ok (.iconst 1, 1) := by decide +kernel
theorem dX5_nearestBase_34 : decode cX5_nearestBase 34 = .ok (.invokevirtual 38, 3) := by decide +kernel
theorem dX5_nearestBase_37 : decode cX5_nearestBase 37 = .ok (.if_icmp .gt 88, 3) := by decide +kernel
theorem dX5_nearestBase_40 : decode cX5_nearestBase 40 = .ok (.aload_n 0, 1) := by decide +kernel
theorem dX5_nearestBase_41 : decode cX5_nearestBase 41 = .ok (.aload_n 0, 1) := by decide +kernel
theorem dX5_nearestBase_42 : decode cX5_nearestBase 42 = .ok (.iload 4, 2) := by decide +kernel
theorem dX5_nearestBase_44 : decode cX5_nearestBase 44 = .ok (.iconst 0, 1) := by decide +kernel
theorem dX5_nearestBase_45 : decode cX5_nearestBase 45 = .ok (.invokevirtual 38, 3) := by decide +kernel
theorem dX5_nearestBase_48 : decode cX5_nearestBase 48 = .ok (.invokevirtual 173, 3) := by decide +kernel
theorem dX5_nearestBase_51 : decode cX5_nearestBase 51 = .ok (.aload_n 0, 1) := by decide +kernel
theorem dX5_nearestBase_52 : decode cX5_nearestBase 52 = .ok (.getfield 7, 3) := by decide +kernel
theorem dX5_nearestBase_55 : decode cX5_nearestBase 55 = .ok (.sipush 596, 3) := by decide +kernel
theorem dX5_nearestBase_58 : decode cX5_nearestBase 58 = .ok (.iaload, 1) := by decide +kernel
theorem dX5_nearestBase_59 : decode cX5_nearestBase 59 = .ok (.if_icmp .ge 66, 3) := by decide +kernel
theorem dX5_nearestBase_62 : decode cX5_nearestBase 62 = .ok (.aload_n 0, 1) := by decide +kernel
theorem dX5_nearestBase_63 : decode cX5_nearestBase 63 = .ok (.aload_n 0, 1) := by decide +kernel
theorem dX5_nearestBase_64 : decode cX5_nearestBase 64 = .ok (.iload 4, 2) := by decide +kernel
theorem dX5_nearestBase_66 : decode cX5_nearestBase 66 = .ok (.iconst 0, 1) := by decide +kernel
theorem dX5_nearestBase_67 : decode cX5_nearestBase 67 = .ok (.invokevirtual 38, 3) := by decide +kernel
theorem dX5_nearestBase_70 : decode cX5_nearestBase 70 = .ok (.invokevirtual 152, 3) := by decide +kernel
theorem dX5_nearestBase_73 : decode cX5_nearestBase 73 = .ok (.ifCond .eq 52, 3) := by decide +kernel
theorem dX5_nearestBase_76 : decode cX5_nearestBase 76 = .ok (.aload_n 0, 1) := by decide +kernel
theorem dX5_nearestBase_77 : decode cX5_nearestBase 77 = .ok (.aload_n 0, 1) := by decide +kernel
theorem dX5_nearestBase_78 : decode cX5_nearestBase 78 = .ok (.iload_n 1, 1) := by decide +kernel
theorem dX5_nearestBase_79 : decode cX5_nearestBase 79 = .ok (.iconst 1, 1) := by decide +kernel
theorem dX5_nearestBase_80 : decode cX5_nearestBase 80 = .ok (.invokevirtual 38, 3) := by decide +kernel
theorem dX5_nearestBase_83 : decode cX5_nearestBase 83 = .ok (.invokevirtual 70, 3) := by decide +kernel
theorem dX5_nearestBase_86 : decode cX5_nearestBase 86 = .ok (.aload_n 0, 1) := by decide +kernel
theorem dX5_nearestBase_87 : decode cX5_nearestBase 87 = .ok (.aload_n 0, 1) := by decide +kernel
theorem dX5_nearestBase_88 : decode cX5_nearestBase 88 = .ok (.getfield 46, 3) := by decide +kernel
theorem dX5_nearestBase_91 : decode cX5_nearestBase 91 = .ok (.invokestatic 52, 3) := by decide +kernel
theorem dX5_nearestBase_94 : decode cX5_nearestBase 94 = .ok (.invokevirtual 155, 3) := by decide +kernel
theorem dX5_nearestBase_97 : decode cX5_nearestBase 97 = .ok (.istore 5, 2) := by decide +kernel
theorem dX5_nearestBase_99 : decode cX5_nearestBase 99 = .ok (.iload 5, 2) := by decide +kernel
theorem dX5_nearestBase_101 : decode cX5_nearestBase 101 = .ok (.iload_n 3, 1) := by decide +kernel
theorem dX5_nearestBase_102 : decode cX5_nearestBase 102 = .ok (.if_icmp .ge 8, 3) := by decide +kernel
theorem dX5_nearestBase_105 : decode cX5_nearestBase 105 = .ok (.iload 4, 2) := by decide +kernel
theorem dX5_nearestBase_107 : decode cX5_nearestBase 107 = .ok (.goto 4, 3) := by decide +kernel
theorem dX5_nearestBase_110 : decode cX5_nearestBase 110 = .ok (.iload_n 2, 1) := by decide +kernel
theorem dX5_nearestBase_111 : decode cX5_nearestBase 111 = .ok (.istore_n 2, 1) := by decide +kernel
theorem dX5_nearestBase_112 : decode cX5_nearestBase 112 = .ok (.iload 5, 2) := by decide +kernel
theorem dX5_nearestBase_114 : decode cX5_nearestBase 114 = .ok (.iload_n 3, 1) := by decide +kernel
theorem dX5_nearestBase_115 : decode cX5_nearestBase 115 = .ok (.if_icmp .ge 8, 3) := by decide +kernel
theorem dX5_nearestBase_118 : decode cX5_nearestBase 118 = .ok (.iload 5, 2) := by decide +kernel
theorem dX5_nearestBase_120 : decode cX5_nearestBase 120 = .ok (.goto 4, 3) := by decide +kernel
theorem dX5_nearestBase_123 : decode cX5_nearestBase 123 = .ok (.iload_n 3, 1) := by decide +kernel
theorem dX5_nearestBase_124 : decode cX5_nearestBase 124 = .ok (.istore_n 3, 1) := by decide +kernel
theorem dX5_nearestBase_125 : decode cX5_nearestBase 125 = .ok (.iinc 4 1, 3) := by decide +kernel
theorem dX5_nearestBase_128 : decode cX5_nearestBase 128 = .ok (.goto (-120), 3) := by decide +kernel
theorem dX5_nearestBase_131 : decode cX5_nearestBase 131 = .ok (.iload_n 2, 1) := by decide +kernel
theorem dX5_nearestBase_132 : decode cX5_nearestBase 132 = .ok (.ireturn, 1) := by decide +kernel
theorem dX5_pack_0 : decode cX5_pack 0 = .ok (.aload_n 0, 1) := by decide +kernel
theorem dX5_pack_1 : decode cX5_pack 1 = .ok (.invokevirtual 137, 3) := by decide +kernel
theorem dX5_pack_4 : decode cX5_pack 4 = .ok (.aload_n 0, 1) := by decide +kernel
theorem dX5_pack_5 : decode cX5_pack 5 = .ok (.invokevirtual 176, 3) := by decide +kernel
theorem dX5_pack_8 : decode cX5_pack 8 = .ok (.istore_n 1, 1) := by decide +kernel
theorem dX5_pack_9 : decode cX5_pack 9 = .ok (.iconst 0, 1) := by decide +kernel
theorem dX5_pack_10 : decode cX5_pack 10 = .ok (.istore_n 2, 1) := by decide +kernel
theorem dX5_pack_11 : decode cX5_pack 11 = .ok (.iload_n 2, 1) := by decide +kernel
theorem dX5_pack_12 : decode cX5_pack 12 = .ok (.aload_n 0, 1) := by decide +kernel
theorem dX5_pack_13 : decode cX5_pack 13 = .ok (.getfield 7, 3) := by decide +kernel
theorem dX5_pack_16 : decode cX5_pack 16 = .ok (.sipush 580, 3) := by decide +kernel
theorem dX5_pack_19 : decode cX5_pack 19 = .ok (.iaload, 1) := by decide +kernel
theorem dX5_pack_20 : decode cX5_pack 20 = .ok (.if_icmp .ge 94, 3) := by decide +kernel
theorem dX5_pack_23 : decode cX5_pack 23 = .ok (.aload_n 0, 1) := by decide +kernel
theorem dX5_pack_24 : decode cX5_pack 24 = .ok (.getfield 34, 3) := by decide +kernel
theorem dX5_pack_27 : decode cX5_pack 27 = .ok (.iload_n 2, 1) := by decide +kernel
theorem dX5_pack_28 : decode cX5_pack 28 = .ok (.aload_n 0, 1) := by decide +kernel
theorem dX5_pack_29 : decode cX5_pack 29 = .ok (.aload_n 0, 1) := by decide +kernel
theorem dX5_pack_30 : decode cX5_pack 30 = .ok (.iload_n 2, 1) := by decide +kernel
theorem dX5_pack_31 : decode cX5_pack 31 = .ok (.iconst 0, 1) := by decide +kernel
theorem dX5_pack_32 : decode cX5_pack 32 = .ok (.invokevirtual 38, 3) := by decide +kernel
theorem dX5_pack_35 : decode cX5_pack 35 = .ok (.invokevirtual 152, 3) := by decide +kernel
theorem dX5_pack_38 : decode cX5_pack 38 = .ok (.bastore, 1) := by decide +kernel
theorem dX5_pack_39 : decode cX5_pack 39 = .ok (.aload_n 0, 1) := by decide +kernel
theorem dX5_pack_40 : decode cX5_pack 40 = .ok (.getfield 34, 3) := by decide +kernel
theorem dX5_pack_43 : decode cX5_pack 43 = .ok (.iload_n 2, 1) := by decide +kernel
theorem dX5_pack_44 : decode cX5_pack 44 = .ok (.baload, 1) := by decide +kernel
theorem dX5_pack_45 : decode cX5_pack 45 = .ok (.ifCond .eq 63, 3) := by decide +kernel
theorem dX5_pack_48 : decode cX5_pack 48 = .ok (.aload_n 0, 1) := by decide +kernel
theorem dX5_pack_49 : decode cX5_pack 49 = .ok (.invokevirtual 149, 3) := by decide +kernel
theorem dX5_pack_52 : decode cX5_pack 52 = .ok (.aload_n 0, 1) := by decide +kernel
theorem dX5_pack_53 : decode cX5_pack 53 = .ok (.iload_n 2, 1) := by decide +kernel
theorem dX5_pack_54 : decode cX5_pack 54 = .ok (.invokevirtual 179, 3) := by decide +kernel
theorem dX5_pack_57 : decode cX5_pack 57 = .ok (.istore_n 3, 1) := by decide +kernel
theorem dX5_pack_58 : decode cX5_pack 58 = .ok (.iload_n 3, 1) := by decide +kernel
theorem dX5_pack_59 : decode cX5_pack 59 = .ok (.iconst (-1), 1) := by decide +kernel
theorem dX5_pack_60 : decode cX5_pack 60 = .ok (.if_icmp .ne 11, 3) := by decide +kernel
theorem dX5_pack_63 : decode cX5_pack 63 = .ok (.aload_n 0, 1) := by decide +kernel
theorem dX5_pack_64 : decode cX5_pack 64 = .ok (.iload_n 2, 1) := by decide +kernel
theorem dX5_pack_65 : decode cX5_pack 65 = .ok (.invokevirtual 164, 3) := by decide +kernel
theorem dX5_pack_68 : decode cX5_pack 68 = .ok (.goto 40, 3) := by decide +kernel
theorem dX5_pack_71 : decode cX5_pack 71 = .ok (.aload_n 0, 1) := by decide +kernel
theorem dX5_pack_72 : decode cX5_pack 72 = .ok (.getfield 34, 3) := by decide +kernel
theorem dX5_pack_75 : decode cX5_pack 75 = .ok (.iload_n 2, 1) := by decide +kernel
theorem dX5_pack_76 : decode cX5_pack 76 = .ok (.aload_n 0, 1) := by decide +kernel
theorem dX5_pack_77 : decode cX5_pack 77 = .ok (.aload_n 0, 1) := by decide +kernel
theorem dX5_pack_78 : decode cX5_pack 78 = .ok (.iload_n 3, 1) := by decide +kernel
theorem dX5_pack_79 : decode cX5_pack 79 = .ok (.iconst 0, 1) := by decide +kernel
theorem dX5_pack_80 : decode cX5_pack 80 = .ok (.invokevirtual 38, 3) := by decide +kernel
theorem dX5_pack_83 : decode cX5_pack 83 = .ok (.invokevirtual 152, 3) := by decide +kernel
theorem dX5_pack_86 : decode cX5_pack 86 = .ok (.bastore, 1) := by decide +kernel
theorem dX5_pack_87 : decode cX5_pack 87 = .ok (.aload_n 0, 1) := by decide +kernel
theorem dX5_pack_88 : decode cX5_pack 88 = .ok (.aload_n 0, 1) := by decide +kernel
theorem dX5_pack_89 : decode cX5_pack 89 = .ok (.iload_n 2, 1) := by decide +kernel
theorem dX5_pack_90 : decode cX5_pack 90 = .ok (.iconst 1, 1) := by decide +kernel
theorem dX5_pack_91 : decode cX5_pack 91 = .ok (.invokevirtual 38, 3) := by decide +kernel
theorem dX5_pack_94 : decode cX5_pack 94 = .ok (.invokevirtual 70, 3) := by decide +kernel
theorem dX5_pack_97 : decode cX5_pack 97 = .ok (.aload_n 0, 1) := by decide +kernel
theorem dX5_pack_98 : decode cX5_pack 98 = .ok (.iload_n 2, 1) := by decide +kernel
theorem dX5_pack_99 : decode cX5_pack 99 = .ok (.aload_n 0, 1) := by decide +kernel
theorem dX5_pack_100 : decode cX5_pack 100 = .ok (.iload_n 3, 1) := by decide +kernel
theorem dX5_pack_101 : decode cX5_pack 101 = .ok (.iconst 0, 1) := by decide +kernel
theorem dX5_pack_102 : decode cX5_pack 102 = .ok (.invokevirtual 38, 3) := by decide +kernel
theorem dX5_pack_105 : decode cX5_pack 105 = .ok (.invokevirtual 161, 3) := by decide +kernel
theorem dX5_pack_108 : decode cX5_pack 108 = .ok (.iinc 2 1, 3) := by decide +kernel
theorem dX5_pack_111 : decode cX5_pack 111 = .ok (.goto (-100), 3) := by decide +kernel
theorem dX5_pack_114 : decode cX5_pack 114 = .ok (.iload_n 1, 1) := by decide +kernel
theorem dX5_pack_115 : decode cX5_pack 115 = .ok (.aload_n 0, 1) := by decide +kernel
theorem dX5_pack_116 : decode cX5_pack 116 = .ok (.invokevirtual 176, 3) := by decide +kernel
theorem dX5_pack_119 : decode cX5_pack 119 = .ok (.isub, 1) := by decide +kernel
theorem dX5_pack_120 : decode cX5_pack 120 = .ok (.ireturn, 1) := by decide +kernel
theorem dX5_set_0 : decode cX5_set 0 = .ok (.iload_n 1, 1) := by decide +kernel
theorem dX5_set_1 : decode cX5_set 1 = .ok (.iconst 0, 1) := by decide +kernel
theorem dX5_set_2 : decode cX5_set 2 = .ok (.iconst 1, 1) := by decide +kernel
theorem dX5_set_3 : decode cX5_set 3 = .ok (.invokestatic 81, 3) := by decide +kernel
theorem dX5_set_6 : decode cX5_set 6 = .ok (.ifCond .eq 29, 3) := by decide +kernel
theorem dX5_set_9 : decode cX5_set 9 = .ok (.iload_n 2, 1) := by decide +kernel
theorem dX5_set_10 : decode cX5_set 10 = .ok (.iload_n 1, 1) := by decide +kernel
theorem dX5_set_11 : decode cX5_set 11 = .ok (.ifCond .ne 7, 3) := by decide +kernel
theorem dX5_set_14 : decode cX5_set 14 = .ok (.iconst 1, 1) := by decide +kernel
theorem dX5_set_15 : decode cX5_set 15 = .ok (.goto 4, 3) := by decide +kernel
theorem dX5_set_18 : decode cX5_set 18 = .ok (.iconst 0, 1) := by decide +kernel
theorem dX5_set_19 : decode cX5_set 19 = .ok (.iload_n 1, 1) := by decide +kernel
theorem dX5_set_20 : decode cX5_set 20 = .ok (.ifCond .ne 8, 3) := by decide +kernel
theorem dX5_set_23 : decode cX5_set 23 = .ok (.bipush 8, 2) := by decide +kernel
theorem dX5_set_25 : decode cX5_set 25 = .ok (.goto 4, 3) := by decide +kernel
theorem dX5_set_28 : decode cX5_set 28 = .ok (.iconst 1, 1) := by decide +kernel
theorem dX5_set_29 : decode cX5_set 29 = .ok (.invokestatic 81, 3) := by decide +kernel
theorem dX5_set_32 : decode cX5_set 32 = .ok (.ifCond .ne 6, 3) := by decide +kernel
theorem dX5_set_35 : decode cX5_set 35 = .ok (.bipush (-2), 2) := by decide +kernel
theorem dX5_set_37 : decode cX5_set 37 = .ok (.ireturn, 1) := by decide +kernel
theorem dX5_set_38 : decode cX5_set 38 = .ok (.aload_n 0, 1) := by decide +kernel
theorem dX5_set_39 : decode cX5_set 39 = .ok (.invokevirtual 137, 3) := by decide +kernel
theorem dX5_set_42 : decode cX5_set 42 = .ok (.aload_n 0, 1) := by decide +kernel
theorem dX5_set_43 : decode cX5_set 43 = .ok (.getfield 7, 3) := by decide +kernel
theorem dX5_set_46 : decode cX5_set 46 = .ok (.sipush 596, 3) := by decide +kernel
theorem dX5_set_49 : decode cX5_set 49 = .ok (.iload_n 1, 1) := by decide +kernel
theorem dX5_set_50 : decode cX5_set 50 = .ok (.iadd, 1) := by decide +kernel
theorem dX5_set_51 : decode cX5_set 51 = .ok (.iaload, 1) := by decide +kernel
theorem dX5_set_52 : decode cX5_set 52 = .ok (.istore_n 3, 1) := by decide +kernel
theorem dX5_set_53 : decode cX5_set 53 = .ok (.aload_n 0, 1) := by decide +kernel
theorem dX5_set_54 : decode cX5_set 54 = .ok (.getfield 7, 3) := by decide +kernel
theorem dX5_set_57 : decode cX5_set 57 = .ok (.sipush 596, 3) := by decide +kernel
theorem dX5_set_60 : decode cX5_set 60 = .ok (.iload_n 1, 1) := by decide +kernel
theorem dX5_set_61 : decode cX5_set 61 = .ok (.iadd, 1) := by decide +kernel
theorem dX5_set_62 : decode cX5_set 62 = .ok (.iload_n 2, 1) := by decide +kernel
theorem dX5_set_63 : decode cX5_set 63 = .ok (.iastore, 1) := by decide +kernel
theorem dX5_set_64 : decode cX5_set 64 = .ok (.iload_n 3, 1) := by decide +kernel
theorem dX5_set_65 : decode cX5_set 65 = .ok (.ireturn, 1) := by decide +kernel
theorem dX5_value_0 : decode cX5_value 0 = .ok (.iload_n 1, 1) := by decide +kernel
theorem dX5_value_1 : decode cX5_value 1 = .ok (.ifCond .ge 6, 3) := by decide +kernel
theorem dX5_value_4 : decode cX5_value 4 = .ok (.bipush (-2), 2) := by decide +kernel
theorem dX5_value_6 : decode cX5_value 6 = .ok (.ireturn, 1) := by decide +kernel
theorem dX5_value_7 : decode cX5_value 7 = .ok (.iload_n 1, 1) := by decide +kernel
theorem dX5_value_8 : decode cX5_value 8 = .ok (.aload_n 0, 1) := by decide +kernel
theorem dX5_value_9 : decode cX5_value 9 = .ok (.getfield 7, 3) := by decide +kernel
theorem dX5_value_12 : decode cX5_value 12 = .ok (.sipush 582, 3) := by decide +kernel
theorem dX5_value_15 : decode cX5_value 15 = .ok (.iaload, 1) := by decide +kernel
theorem dX5_value_16 : decode cX5_value 16 = .ok (.invokestatic 52, 3) := by decide +kernel
theorem dX5_value_19 : decode cX5_value 19 = .ok (.if_icmp .ge 16, 3) := by decide +kernel
theorem dX5_value_22 : decode cX5_value 22 = .ok (.aload_n 0, 1) := by decide +kernel
theorem dX5_value_23 : decode cX5_value 23 = .ok (.getfield 7, 3) := by decide +kernel
theorem dX5_value_26 : decode cX5_value 26 = .ok (.sipush 583, 3) := by decide +kernel
theorem dX5_value_29 : decode cX5_value 29 = .ok (.iload_n 1, 1) := by decide +kernel
theorem dX5_value_30 : decode cX5_value 30 = .ok (.iadd, 1) := by decide +kernel
theorem dX5_value_31 : decode cX5_value 31 = .ok (.iaload, 1) := by decide +kernel
theorem dX5_value_32 : decode cX5_value 32 = .ok (.goto 4, 3) := by decide +kernel
theorem dX5_value_35 : decode cX5_value 35 = .ok (.iconst (-1), 1) := by decide +kernel
theorem dX5_value_36 : decode cX5_value 36 = .ok (.ireturn, 1) := by decide +kernel
theorem dX5_part_0 : decode cX5_part 0 = .ok (.iload_n 2, 1) := by decide +kernel
theorem dX5_part_1 : decode cX5_part 1 = .ok (.tableswitch 107 0 6 #[43, 50, 57, 64, 71, 82, 101], 43) := by decide +kernel
theorem dX5_part_44 : decode cX5_part 44 = .ok (.aload_n 0, 1) := by decide +kernel
theorem dX5_part_45 : decode cX5_part 45 = .ok (.iload_n 1, 1) := by decide +kernel
theorem dX5_part_46 : decode cX5_part 46 = .ok (.iconst 1, 1) := by decide +kernel
theorem dX5_part_47 : decode cX5_part 47 = .ok (.invokevirtual 38, 3) := by decide +kernel
theorem dX5_part_50 : decode cX5_part 50 = .ok (.ireturn, 1) := by decide +kernel
theorem dX5_part_51 : decode cX5_part 51 = .ok (.aload_n 0, 1) := by decide +kernel
theorem dX5_part_52 : decode cX5_part 52 = .ok (.iload_n 1, 1) := by decide +kernel
theorem dX5_part_53 : decode cX5_part 53 = .ok (.iconst 2, 1) := by decide +kernel
theorem dX5_part_54 : decode cX5_part 54 = .ok (.invokevirtual 38, 3) := by decide +kernel
theorem dX5_part_57 : decode cX5_part 57 = .ok (.ireturn, 1) := by decide +kernel
theorem dX5_part_58 : decode cX5_part 58 = .ok (.aload_n 0, 1) := by decide +kernel
theorem dX5_part_59 : decode cX5_part 59 = .ok (.iload_n 1, 1) := by decide +kernel
theorem dX5_part_60 : decode cX5_part 60 = .ok (.iconst 3, 1) := by decide +kernel
theorem dX5_part_61 : decode cX5_part 61 = .ok (.invokevirtual 38, 3) := by decide +kernel
theorem dX5_part_64 : decode cX5_part 64 = .ok (.ireturn, 1) := by decide +kernel
theorem dX5_part_65 : decode cX5_part 65 = .ok (.aload_n 0, 1) := by decide +kernel
theorem dX5_part_66 : decode cX5_part 66 = .ok (.iload_n 1, 1) := by decide +kernel
theorem dX5_part_67 : decode cX5_part 67 = .ok (.iconst 4, 1) := by decide +kernel
theorem dX5_part_68 : decode cX5_part 68 = .ok (.invokevirtual 38, 3) := by decide +kernel
theorem dX5_part_71 : decode cX5_part 71 = .ok (.ireturn, 1) := by decide +kernel
theorem dX5_part_72 : decode cX5_part 72 = .ok (.aload_n 0, 1) := by decide +kernel
theorem dX5_part_73 : decode cX5_part 73 = .ok (.aload_n 0, 1) := by decide +kernel
theorem dX5_part_74 : decode cX5_part 74 = .ok (.iload_n 1, 1) := by decide +kernel
theorem dX5_part_75 : decode cX5_part 75 = .ok (.iconst 0, 1) := by decide +kernel
theorem dX5_part_76 : decode cX5_part 76 = .ok (.invokevirtual 38, 3) := by decide +kernel
theorem dX5_part_79 : decode cX5_part 79 = .ok (.invokevirtual 173, 3) := by decide +kernel
theorem dX5_part_82 : decode cX5_part 82 = .ok (.ireturn, 1) := by decide +kernel
theorem dX5_part_83 : decode cX5_part 83 = .ok (.aload_n 0, 1) := by decide +kernel
theorem dX5_part_84 : decode cX5_part 84 = .ok (.aload_n 0, 1) := by decide +kernel
theorem dX5_part_85 : decode cX5_part 85 = .ok (.iload_n 1, 1) := by decide +kernel
theorem dX5_part_86 : decode cX5_part 86 = .ok (.iconst 0, 1) := by decide +kernel
theorem dX5_part_87 : decode cX5_part 87 = .ok (.invokevirtual 38, 3) := by decide +kernel
theorem dX5_part_90 : decode cX5_part 90 = .ok (.invokevirtual 152, 3) := by decide +kernel
theorem dX5_part_93 : decode cX5_part 93 = .ok (.ifCond .eq 7, 3) := by decide +kernel
theorem dX5_part_96 : decode cX5_part 96 = .ok (.iconst 1, 1) := by decide +kernel
theorem dX5_part_97 : decode cX5_part 97 = .ok (.goto 4, 3) := by decide +kernel
theorem dX5_part_100 : decode cX5_part 100 = .ok (.iconst 0, 1) := by decide +kernel
theorem dX5_part_101 : decode cX5_part 101 = .ok (.ireturn, 1) := by decide +kernel
theorem dX5_part_102 : decode cX5_part 102 = .ok (.aload_n 0, 1) := by decide +kernel
theorem dX5_part_103 : decode cX5_part 103 = .ok (.iload_n 1, 1) := by decide +kernel
theorem dX5_part_104 : decode cX5_part 104 = .ok (.invokevirtual 170, 3) := by decide +kernel
theorem dX5_part_107 : decode cX5_part 107 = .ok (.ireturn, 1) := by decide +kernel
theorem dX5_part_108 : decode cX5_part 108 = .ok (.aload_n 0, 1) := by decide +kernel
theorem dX5_part_109 : decode cX5_part 109 = .ok (.aload_n 0, 1) := by decide +kernel
theorem dX5_part_110 : decode cX5_part 110 = .ok (.iload_n 1, 1) := by decide +kernel
theorem dX5_part_111 : decode cX5_part 111 = .ok (.iconst 0, 1) := by decide +kernel
theorem dX5_part_112 : decode cX5_part 112 = .ok (.invokevirtual 38, 3) := by decide +kernel
theorem dX5_part_115 : decode cX5_part 115 = .ok (.invokevirtual 167, 3) := by decide +kernel
theorem dX5_part_118 : decode cX5_part 118 = .ok (.ireturn, 1) := by decide +kernel
theorem dX5_kept_0 : decode cX5_kept 0 = .ok (.iload_n 1, 1) := by decide +kernel
theorem dX5_kept_1 : decode cX5_kept 1 = .ok (.ifCond .lt 13, 3) := by decide +kernel
theorem dX5_kept_4 : decode cX5_kept 4 = .ok (.iload_n 2, 1) := by decide +kernel
theorem dX5_kept_5 : decode cX5_kept 5 = .ok (.iconst 0, 1) := by decide +kernel
theorem dX5_kept_6 : decode cX5_kept 6 = .ok (.bipush 7, 2) := by decide +kernel
theorem dX5_kept_8 : decode cX5_kept 8 = .ok (.invokestatic 81, 3) := by decide +kernel
theorem dX5_kept_11 : decode cX5_kept 11 = .ok (.ifCond .ne 6, 3) := by decide +kernel
theorem dX5_kept_14 : decode cX5_kept 14 = .ok (.bipush (-2), 2) := by decide +kernel
theorem dX5_kept_16 : decode cX5_kept 16 = .ok (.ireturn, 1) := by decide +kernel
theorem dX5_kept_17 : decode cX5_kept 17 = .ok (.aload_n 0, 1) := by decide +kernel
theorem dX5_kept_18 : decode cX5_kept 18 = .ok (.iload_n 1, 1) := by decide +kernel
theorem dX5_kept_19 : decode cX5_kept 19 = .ok (.invokevirtual 59, 3) := by decide +kernel
theorem dX5_kept_22 : decode cX5_kept 22 = .ok (.istore_n 3, 1) := by decide +kernel
theorem dX5_kept_23 : decode cX5_kept 23 = .ok (.iload_n 3, 1) := by decide +kernel
theorem dX5_kept_24 : decode cX5_kept 24 = .ok (.iconst (-1), 1) := by decide +kernel
theorem dX5_kept_25 : decode cX5_kept 25 = .ok (.if_icmp .ne 7, 3) := by decide +kernel
theorem dX5_kept_28 : decode cX5_kept 28 = .ok (.iconst (-1), 1) := by decide +kernel
theorem dX5_kept_29 : decode cX5_kept 29 = .ok (.goto 9, 3) := by decide +kernel
theorem dX5_kept_32 : decode cX5_kept 32 = .ok (.aload_n 0, 1) := by decide +kernel
theorem dX5_kept_33 : decode cX5_kept 33 = .ok (.iload_n 3, 1) := by decide +kernel
theorem dX5_kept_34 : decode cX5_kept 34 = .ok (.iload_n 2, 1) := by decide +kernel
theorem dX5_kept_35 : decode cX5_kept 35 = .ok (.invokevirtual 182, 3) := by decide +kernel
theorem dX5_kept_38 : decode cX5_kept 38 = .ok (.ireturn, 1) := by decide +kernel
theorem dX5_entry_0 : decode cX5_entry 0 = .ok (.iload_n 1, 1) := by decide +kernel
theorem dX5_entry_1 : decode cX5_entry 1 = .ok (.ifCond .lt 16, 3) := by decide +kernel
theorem dX5_entry_4 : decode cX5_entry 4 = .ok (.iload_n 2, 1) := by decide +kernel
theorem dX5_entry_5 : decode cX5_entry 5 = .ok (.ifCond .lt 12, 3) := by decide +kernel
theorem dX5_entry_8 : decode cX5_entry 8 = .ok (.iload_n 3, 1) := by decide +kernel
theorem dX5_entry_9 : decode cX5_entry 9 = .ok (.iconst 0, 1) := by decide +kernel
theorem dX5_entry_10 : decode cX5_entry 10 = .ok (.iconst 1, 1) := by decide +kernel
theorem dX5_entry_11 : decode cX5_entry 11 = .ok (.invokestatic 81, 3) := by decide +kernel
theorem dX5_entry_14 : decode cX5_entry 14 = .ok (.ifCond .ne 6, 3) := by decide +kernel
theorem dX5_entry_17 : decode cX5_entry 17 = .ok (.bipush (-2), 2) := by decide +kernel
theorem dX5_entry_19 : decode cX5_entry 19 = .ok (.ireturn, 1) := by decide +kernel
theorem dX5_entry_20 : decode cX5_entry 20 = .ok (.aload_n 0, 1) := by decide +kernel
theorem dX5_entry_21 : decode cX5_entry 21 = .ok (.iload_n 1, 1) := by decide +kernel
theorem dX5_entry_22 : decode cX5_entry 22 = .ok (.invokevirtual 59, 3) := by decide +kernel
theorem dX5_entry_25 : decode cX5_entry 25 = .ok (.istore 4, 2) := by decide +kernel
theorem dX5_entry_27 : decode cX5_entry 27 = .ok (.iload 4, 2) := by decide +kernel
theorem dX5_entry_29 : decode cX5_entry 29 = .ok (.iconst (-1), 1) := by decide +kernel
theorem dX5_entry_30 : decode cX5_entry 30 = .ok (.if_icmp .eq 14, 3) := by decide +kernel
theorem dX5_entry_33 : decode cX5_entry 33 = .ok (.iload_n 2, 1) := by decide +kernel
theorem dX5_entry_34 : decode cX5_entry 34 = .ok (.aload_n 0, 1) := by decide +kernel
theorem dX5_entry_35 : decode cX5_entry 35 = .ok (.iload 4, 2) := by decide +kernel
theorem dX5_entry_37 : decode cX5_entry 37 = .ok (.iconst 4, 1) := by decide +kernel
theorem dX5_entry_38 : decode cX5_entry 38 = .ok (.invokevirtual 38, 3) := by decide +kernel
theorem dX5_entry_41 : decode cX5_entry 41 = .ok (.if_icmp .lt 5, 3) := by decide +kernel
theorem dX5_entry_44 : decode cX5_entry 44 = .ok (.iconst (-1), 1) := by decide +kernel
theorem dX5_entry_45 : decode cX5_entry 45 = .ok (.ireturn, 1) := by decide +kernel
theorem dX5_entry_46 : decode cX5_entry 46 = .ok (.aload_n 0, 1) := by decide +kernel
theorem dX5_entry_47 : decode cX5_entry 47 = .ok (.iload 4, 2) := by decide +kernel
theorem dX5_entry_49 : decode cX5_entry 49 = .ok (.iload_n 3, 1) := by decide +kernel
theorem dX5_entry_50 : decode cX5_entry 50 = .ok (.ifCond .ne 7, 3) := by decide +kernel
theorem dX5_entry_53 : decode cX5_entry 53 = .ok (.iconst 5, 1) := by decide +kernel
theorem dX5_entry_54 : decode cX5_entry 54 = .ok (.goto 5, 3) := by decide +kernel
theorem dX5_entry_57 : decode cX5_entry 57 = .ok (.bipush 17, 2) := by decide +kernel
theorem dX5_entry_59 : decode cX5_entry 59 = .ok (.iload_n 2, 1) := by decide +kernel
theorem dX5_entry_60 : decode cX5_entry 60 = .ok (.iadd, 1) := by decide +kernel
theorem dX5_entry_61 : decode cX5_entry 61 = .ok (.invokevirtual 38, 3) := by decide +kernel
theorem dX5_entry_64 : decode cX5_entry 64 = .ok (.ireturn, 1) := by decide +kernel
theorem dX5_read_0 : decode cX5_read 0 = .ok (.aload_n 0, 1) := by decide +kernel
theorem dX5_read_1 : decode cX5_read 1 = .ok (.iload_n 1, 1) := by decide +kernel
theorem dX5_read_2 : decode cX5_read 2 = .ok (.invokevirtual 59, 3) := by decide +kernel
theorem dX5_read_5 : decode cX5_read 5 = .ok (.istore 4, 2) := by decide +kernel
theorem dX5_read_7 : decode cX5_read 7 = .ok (.iload 4, 2) := by decide +kernel
theorem dX5_read_9 : decode cX5_read 9 = .ok (.iconst (-1), 1) := by decide +kernel
theorem dX5_read_10 : decode cX5_read 10 = .ok (.if_icmp .eq 26, 3) := by decide +kernel
theorem dX5_read_13 : decode cX5_read 13 = .ok (.iload_n 2, 1) := by decide +kernel
theorem dX5_read_14 : decode cX5_read 14 = .ok (.ifCond .eq 18, 3) := by decide +kernel
theorem dX5_read_17 : decode cX5_read 17 = .ok (.iload_n 2, 1) := by decide +kernel
theorem dX5_read_18 : decode cX5_read 18 = .ok (.aload_n 0, 1) := by decide +kernel
theorem dX5_read_19 : decode cX5_read 19 = .ok (.iload 4, 2) := by decide +kernel
theorem dX5_read_21 : decode cX5_read 21 = .ok (.iconst 1, 1) := by decide +kernel
theorem dX5_read_22 : decode cX5_read 22 = .ok (.invokevirtual 38, 3) := by decide +kernel
theorem dX5_read_25 : decode cX5_read 25 = .ok (.iconst 3, 1) := by decide +kernel
theorem dX5_read_26 : decode cX5_read 26 = .ok (.invokestatic 81, 3) := by decide +kernel
theorem dX5_read_29 : decode cX5_read 29 = .ok (.ifCond .eq 7, 3) := by decide +kernel
theorem dX5_read_32 : decode cX5_read 32 = .ok (.iload_n 3, 1) := by decide +kernel
theorem dX5_read_33 : decode cX5_read 33 = .ok (.ifCond .ge 6, 3) := by decide +kernel
theorem dX5_read_36 : decode cX5_read 36 = .ok (.bipush (-2), 2) := by decide +kernel
theorem dX5_read_38 : decode cX5_read 38 = .ok (.ireturn, 1) := by decide +kernel
theorem dX5_read_39 : decode cX5_read 39 = .ok (.aload_n 0, 1) := by decide +kernel
theorem dX5_read_40 : decode cX5_read 40 = .ok (.iload_n 1, 1) := by decide +kernel
theorem dX5_read_41 : decode cX5_read 41 = .ok (.invokevirtual 152, 3) := by decide +kernel
theorem dX5_read_44 : decode cX5_read 44 = .ok (.ifCond .ne 6, 3) := by decide +kernel
theorem dX5_read_47 : decode cX5_read 47 = .ok (.bipush (-3), 2) := by decide +kernel
theorem dX5_read_49 : decode cX5_read 49 = .ok (.ireturn, 1) := by decide +kernel
theorem dX5_read_50 : decode cX5_read 50 = .ok (.aload_n 0, 1) := by decide +kernel
theorem dX5_read_51 : decode cX5_read 51 = .ok (.iload_n 2, 1) := by decide +kernel
theorem dX5_read_52 : decode cX5_read 52 = .ok (.invokevirtual 70, 3) := by decide +kernel
theorem dX5_read_55 : decode cX5_read 55 = .ok (.iload_n 3, 1) := by decide +kernel
theorem dX5_read_56 : decode cX5_read 56 = .ok (.aload_n 0, 1) := by decide +kernel
theorem dX5_read_57 : decode cX5_read 57 = .ok (.getfield 46, 3) := by decide +kernel
theorem dX5_read_60 : decode cX5_read 60 = .ok (.invokestatic 52, 3) := by decide +kernel
theorem dX5_read_63 : decode cX5_read 63 = .ok (.if_icmp .ge 12, 3) := by decide +kernel
theorem dX5_read_66 : decode cX5_read 66 = .ok (.aload_n 0, 1) := by decide +kernel
theorem dX5_read_67 : decode cX5_read 67 = .ok (.getfield 16, 3) := by decide +kernel
theorem dX5_read_70 : decode cX5_read 70 = .ok (.iload_n 3, 1) := by decide +kernel
theorem dX5_read_71 : decode cX5_read 71 = .ok (.iaload, 1) := by decide +kernel
theorem dX5_read_72 : decode cX5_read 72 = .ok (.goto 4, 3) := by decide +kernel
theorem dX5_read_75 : decode cX5_read 75 = .ok (.iconst (-1), 1) := by decide +kernel
theorem dX5_read_76 : decode cX5_read 76 = .ok (.ireturn, 1) := by decide +kernel
theorem dX5_cause_0 : decode cX5_cause 0 = .ok (.iload_n 1, 1) := by decide +kernel
theorem dX5_cause_1 : decode cX5_cause 1 = .ok (.iconst 0, 1) := by decide +kernel
theorem dX5_cause_2 : decode cX5_cause 2 = .ok (.aload_n 0, 1) := by decide +kernel
theorem dX5_cause_3 : decode cX5_cause 3 = .ok (.getfield 7, 3) := by decide +kernel
theorem dX5_cause_6 : decode cX5_cause 6 = .ok (.sipush 581, 3) := by decide +kernel
theorem dX5_cause_9 : decode cX5_cause 9 = .ok (.iaload, 1) := by decide +kernel
theorem dX5_cause_10 : decode cX5_cause 10 = .ok (.iconst 1, 1) := by decide +kernel
theorem dX5_cause_11 : decode cX5_cause 11 = .ok (.isub, 1) := by decide +kernel
theorem dX5_cause_12 : decode cX5_cause 12 = .ok (.invokestatic 81, 3) := by decide +kernel
theorem dX5_cause_15 : decode cX5_cause 15 = .ok (.ifCond .eq 16, 3) := by decide +kernel
theorem dX5_cause_18 : decode cX5_cause 18 = .ok (.iload_n 2, 1) := by decide +kernel
theorem dX5_cause_19 : decode cX5_cause 19 = .ok (.ifCond .lt 12, 3) := by decide +kernel
theorem dX5_cause_22 : decode cX5_cause 22 = .ok (.iload_n 3, 1) := by decide +kernel
theorem dX5_cause_23 : decode cX5_cause 23 = .ok (.iconst 0, 1) := by decide +kernel
theorem dX5_cause_24 : decode cX5_cause 24 = .ok (.iconst 1, 1) := by decide +kernel
theorem dX5_cause_25 : decode cX5_cause 25 = .ok (.invokestatic 81, 3) := by decide +kernel
theorem dX5_cause_28 : decode cX5_cause 28 = .ok (.ifCond .ne 6, 3) := by decide +kernel
theorem dX5_cause_31 : decode cX5_cause 31 = .ok (.bipush (-2), 2) := by decide +kernel
theorem dX5_cause_33 : decode cX5_cause 33 = .ok (.ireturn, 1) := by decide +kernel
theorem dX5_cause_34 : decode cX5_cause 34 = .ok (.aload_n 0, 1) := by decide +kernel
theorem dX5_cause_35 : decode cX5_cause 35 = .ok (.iload_n 1, 1) := by decide +kernel
theorem dX5_cause_36 : decode cX5_cause 36 = .ok (.invokevirtual 152, 3) := by decide +kernel
theorem dX5_cause_39 : decode cX5_cause 39 = .ok (.istore 4, 2) := by decide +kernel
theorem dX5_cause_41 : decode cX5_cause 41 = .ok (.iload 4, 2) := by decide +kernel
theorem dX5_cause_43 : decode cX5_cause 43 = .ok (.ifCond .ne 25, 3) := by decide +kernel
theorem dX5_cause_46 : decode cX5_cause 46 = .ok (.iload_n 2, 1) := by decide +kernel
theorem dX5_cause_47 : decode cX5_cause 47 = .ok (.aload_n 0, 1) := by decide +kernel
theorem dX5_cause_48 : decode cX5_cause 48 = .ok (.getfield 56, 3) := by decide +kernel
theorem dX5_cause_51 : decode cX5_cause 51 = .ok (.if_icmp .ge 17, 3) := by decide +kernel
theorem dX5_cause_54 : decode cX5_cause 54 = .ok (.aload_n 0, 1) := by decide +kernel
theorem dX5_cause_55 : decode cX5_cause 55 = .ok (.getfield 22, 3) := by decide +kernel
theorem dX5_cause_58 : decode cX5_cause 58 = .ok (.iload_n 2, 1) := by decide +kernel
theorem dX5_cause_59 : decode cX5_cause 59 = .ok (.iaload, 1) := by decide +kernel
theorem dX5_cause_60 : decode cX5_cause 60 = .ok (.iconst (-1), 1) := by decide +kernel
theorem dX5_cause_61 : decode cX5_cause 61 = .ok (.if_icmp .eq 7, 3) := by decide +kernel
theorem dX5_cause_64 : decode cX5_cause 64 = .ok (.iconst 1, 1) := by decide +kernel
theorem dX5_cause_65 : decode cX5_cause 65 = .ok (.goto 4, 3) := by decide +kernel
theorem dX5_cause_68 : decode cX5_cause 68 = .ok (.iconst 0, 1) := by decide +kernel
theorem dX5_cause_69 : decode cX5_cause 69 = .ok (.istore 5, 2) := by decide +kernel
theorem dX5_cause_71 : decode cX5_cause 71 = .ok (.iload 5, 2) := by decide +kernel
theorem dX5_cause_73 : decode cX5_cause 73 = .ok (.ifCond .ne 7, 3) := by decide +kernel
theorem dX5_cause_76 : decode cX5_cause 76 = .ok (.iconst (-1), 1) := by decide +kernel
theorem dX5_cause_77 : decode cX5_cause 77 = .ok (.goto 22, 3) := by decide +kernel
theorem dX5_cause_80 : decode cX5_cause 80 = .ok (.iload_n 3, 1) := by decide +kernel
theorem dX5_cause_81 : decode cX5_cause 81 = .ok (.ifCond .ne 12, 3) := by decide +kernel
theorem dX5_cause_84 : decode cX5_cause 84 = .ok (.aload_n 0, 1) := by decide +kernel
theorem dX5_cause_85 : decode cX5_cause 85 = .ok (.getfield 22, 3) := by decide +kernel
theorem dX5_cause_88 : decode cX5_cause 88 = .ok (.iload_n 2, 1) := by decide +kernel
theorem dX5_cause_89 : decode cX5_cause 89 = .ok (.iaload, 1) := by decide +kernel
theorem dX5_cause_90 : decode cX5_cause 90 = .ok (.goto 9, 3) := by decide +kernel
theorem dX5_cause_93 : decode cX5_cause 93 = .ok (.aload_n 0, 1) := by decide +kernel
theorem dX5_cause_94 : decode cX5_cause 94 = .ok (.getfield 19, 3) := by decide +kernel
theorem dX5_cause_97 : decode cX5_cause 97 = .ok (.iload_n 2, 1) := by decide +kernel
theorem dX5_cause_98 : decode cX5_cause 98 = .ok (.iaload, 1) := by decide +kernel
theorem dX5_cause_99 : decode cX5_cause 99 = .ok (.ireturn, 1) := by decide +kernel
theorem dX5_apart_0 : decode cX5_apart 0 = .ok (.aload_n 0, 1) := by decide +kernel
theorem dX5_apart_1 : decode cX5_apart 1 = .ok (.iload_n 1, 1) := by decide +kernel
theorem dX5_apart_2 : decode cX5_apart 2 = .ok (.invokevirtual 59, 3) := by decide +kernel
theorem dX5_apart_5 : decode cX5_apart 5 = .ok (.istore_n 3, 1) := by decide +kernel
theorem dX5_apart_6 : decode cX5_apart 6 = .ok (.aload_n 0, 1) := by decide +kernel
theorem dX5_apart_7 : decode cX5_apart 7 = .ok (.iload_n 2, 1) := by decide +kernel
theorem dX5_apart_8 : decode cX5_apart 8 = .ok (.invokevirtual 59, 3) := by decide +kernel
theorem dX5_apart_11 : decode cX5_apart 11 = .ok (.istore 4, 2) := by decide +kernel
theorem dX5_apart_13 : decode cX5_apart 13 = .ok (.iload_n 3, 1) := by decide +kernel
theorem dX5_apart_14 : decode cX5_apart 14 = .ok (.iconst (-1), 1) := by decide +kernel
theorem dX5_apart_15 : decode cX5_apart 15 = .ok (.if_icmp .eq 9, 3) := by decide +kernel
theorem dX5_apart_18 : decode cX5_apart 18 = .ok (.iload 4, 2) := by decide +kernel
theorem dX5_apart_20 : decode cX5_apart 20 = .ok (.iconst (-1), 1) := by decide +kernel
theorem dX5_apart_21 : decode cX5_apart 21 = .ok (.if_icmp .ne 6, 3) := by decide +kernel
theorem dX5_apart_24 : decode cX5_apart 24 = .ok (.bipush (-2), 2) := by decide +kernel
theorem dX5_apart_26 : decode cX5_apart 26 = .ok (.ireturn, 1) := by decide +kernel
theorem dX5_apart_27 : decode cX5_apart 27 = .ok (.aload_n 0, 1) := by decide +kernel
theorem dX5_apart_28 : decode cX5_apart 28 = .ok (.iload_n 3, 1) := by decide +kernel
theorem dX5_apart_29 : decode cX5_apart 29 = .ok (.iconst 1, 1) := by decide +kernel
theorem dX5_apart_30 : decode cX5_apart 30 = .ok (.invokevirtual 38, 3) := by decide +kernel
theorem dX5_apart_33 : decode cX5_apart 33 = .ok (.aload_n 0, 1) := by decide +kernel
theorem dX5_apart_34 : decode cX5_apart 34 = .ok (.iload 4, 2) := by decide +kernel
theorem dX5_apart_36 : decode cX5_apart 36 = .ok (.iconst 1, 1) := by decide +kernel
theorem dX5_apart_37 : decode cX5_apart 37 = .ok (.invokevirtual 38, 3) := by decide +kernel
theorem dX5_apart_40 : decode cX5_apart 40 = .ok (.if_icmp .le 12, 3) := by decide +kernel
theorem dX5_apart_43 : decode cX5_apart 43 = .ok (.aload_n 0, 1) := by decide +kernel
theorem dX5_apart_44 : decode cX5_apart 44 = .ok (.iload_n 3, 1) := by decide +kernel
theorem dX5_apart_45 : decode cX5_apart 45 = .ok (.iconst 1, 1) := by decide +kernel
theorem dX5_apart_46 : decode cX5_apart 46 = .ok (.invokevirtual 38, 3) := by decide +kernel
theorem dX5_apart_49 : decode cX5_apart 49 = .ok (.goto 10, 3) := by decide +kernel
theorem dX5_apart_52 : decode cX5_apart 52 = .ok (.aload_n 0, 1) := by decide +kernel
theorem dX5_apart_53 : decode cX5_apart 53 = .ok (.iload 4, 2) := by decide +kernel
theorem dX5_apart_55 : decode cX5_apart 55 = .ok (.iconst 1, 1) := by decide +kernel
theorem dX5_apart_56 : decode cX5_apart 56 = .ok (.invokevirtual 38, 3) := by decide +kernel
theorem dX5_apart_59 : decode cX5_apart 59 = .ok (.istore 5, 2) := by decide +kernel
theorem dX5_apart_61 : decode cX5_apart 61 = .ok (.aload_n 0, 1) := by decide +kernel
theorem dX5_apart_62 : decode cX5_apart 62 = .ok (.iload_n 1, 1) := by decide +kernel
theorem dX5_apart_63 : decode cX5_apart 63 = .ok (.invokevirtual 152, 3) := by decide +kernel
theorem dX5_apart_66 : decode cX5_apart 66 = .ok (.ifCond .ne 6, 3) := by decide +kernel
theorem dX5_apart_69 : decode cX5_apart 69 = .ok (.bipush (-3), 2) := by decide +kernel
theorem dX5_apart_71 : decode cX5_apart 71 = .ok (.ireturn, 1) := by decide +kernel
theorem dX5_apart_72 : decode cX5_apart 72 = .ok (.aload_n 0, 1) := by decide +kernel
theorem dX5_apart_73 : decode cX5_apart 73 = .ok (.iload 5, 2) := by decide +kernel
theorem dX5_apart_75 : decode cX5_apart 75 = .ok (.invokevirtual 70, 3) := by decide +kernel
theorem dX5_apart_78 : decode cX5_apart 78 = .ok (.aload_n 0, 1) := by decide +kernel
theorem dX5_apart_79 : decode cX5_apart 79 = .ok (.invokevirtual 149, 3) := by decide +kernel
theorem dX5_apart_82 : decode cX5_apart 82 = .ok (.aload_n 0, 1) := by decide +kernel
theorem dX5_apart_83 : decode cX5_apart 83 = .ok (.iload_n 2, 1) := by decide +kernel
theorem dX5_apart_84 : decode cX5_apart 84 = .ok (.invokevirtual 152, 3) := by decide +kernel
theorem dX5_apart_87 : decode cX5_apart 87 = .ok (.ifCond .ne 6, 3) := by decide +kernel
theorem dX5_apart_90 : decode cX5_apart 90 = .ok (.bipush (-3), 2) := by decide +kernel
theorem dX5_apart_92 : decode cX5_apart 92 = .ok (.ireturn, 1) := by decide +kernel
theorem dX5_apart_93 : decode cX5_apart 93 = .ok (.aload_n 0, 1) := by decide +kernel
theorem dX5_apart_94 : decode cX5_apart 94 = .ok (.iload 5, 2) := by decide +kernel
theorem dX5_apart_96 : decode cX5_apart 96 = .ok (.invokevirtual 70, 3) := by decide +kernel
theorem dX5_apart_99 : decode cX5_apart 99 = .ok (.aload_n 0, 1) := by decide +kernel
theorem dX5_apart_100 : decode cX5_apart 100 = .ok (.iload 5, 2) := by decide +kernel
theorem dX5_apart_102 : decode cX5_apart 102 = .ok (.invokestatic 52, 3) := by decide +kernel
theorem dX5_apart_105 : decode cX5_apart 105 = .ok (.invokevirtual 155, 3) := by decide +kernel
theorem dX5_apart_108 : decode cX5_apart 108 = .ok (.ireturn, 1) := by decide +kernel
theorem dX5_isInChain_0 : decode cX5_isInChain 0 = .ok (.iconst 0, 1) := by decide +kernel
theorem dX5_isInChain_1 : decode cX5_isInChain 1 = .ok (.istore_n 2, 1) := by decide +kernel
theorem dX5_isInChain_2 : decode cX5_isInChain 2 = .ok (.iconst 0, 1) := by decide +kernel
theorem dX5_isInChain_3 : decode cX5_isInChain 3 = .ok (.istore_n 3, 1) := by decide +kernel
theorem dX5_isInChain_4 : decode cX5_isInChain 4 = .ok (.iload_n 3, 1) := by decide +kernel
theorem dX5_isInChain_5 : decode cX5_isInChain 5 = .ok (.aload_n 0, 1) := by decide +kernel
theorem dX5_isInChain_6 : decode cX5_isInChain 6 = .ok (.getfield 56, 3) := by decide +kernel
theorem dX5_isInChain_9 : decode cX5_isInChain 9 = .ok (.if_icmp .ge 29, 3) := by decide +kernel
theorem dX5_isInChain_12 : decode cX5_isInChain 12 = .ok (.iload_n 2, 1) := by decide +kernel
theorem dX5_isInChain_13 : decode cX5_isInChain 13 = .ok (.ifCond .ne 13, 3) := by decide +kernel
theorem dX5_isInChain_16 : decode cX5_isInChain 16 = .ok (.aload_n 0, 1) := by decide +kernel
theorem dX5_isInChain_17 : decode cX5_isInChain 17 = .ok (.getfield 19, 3) := by decide +kernel
theorem dX5_isInChain_20 : decode cX5_isInChain 20 = .ok (.iload_n 3, 1) := by decide +kernel
theorem dX5_isInChain_21 : decode cX5_isInChain 21 = .ok (.iaload, 1) := by decide +kernel
theorem dX5_isInChain_22 : decode cX5_isInChain 22 = .ok (.iload_n 1, 1) := by decide +kernel
theorem dX5_isInChain_23 : decode cX5_isInChain 23 = .ok (.if_icmp .ne 7, 3) := by decide +kernel
theorem dX5_isInChain_26 : decode cX5_isInChain 26 = .ok (.iconst 1, 1) := by decide +kernel
theorem dX5_isInChain_27 : decode cX5_isInChain 27 = .ok (.goto 4, 3) := by decide +kernel
theorem dX5_isInChain_30 : decode cX5_isInChain 30 = .ok (.iconst 0, 1) := by decide +kernel
theorem dX5_isInChain_31 : decode cX5_isInChain 31 = .ok (.istore_n 2, 1) := by decide +kernel
theorem dX5_isInChain_32 : decode cX5_isInChain 32 = .ok (.iinc 3 1, 3) := by decide +kernel
theorem dX5_isInChain_35 : decode cX5_isInChain 35 = .ok (.goto (-31), 3) := by decide +kernel
theorem dX5_isInChain_38 : decode cX5_isInChain 38 = .ok (.iload_n 2, 1) := by decide +kernel
theorem dX5_isInChain_39 : decode cX5_isInChain 39 = .ok (.ireturn, 1) := by decide +kernel
theorem dX5_fork_0 : decode cX5_fork 0 = .ok (.aload_n 0, 1) := by decide +kernel
theorem dX5_fork_1 : decode cX5_fork 1 = .ok (.iload_n 1, 1) := by decide +kernel
theorem dX5_fork_2 : decode cX5_fork 2 = .ok (.invokevirtual 59, 3) := by decide +kernel
theorem dX5_fork_5 : decode cX5_fork 5 = .ok (.iconst (-1), 1) := by decide +kernel
theorem dX5_fork_6 : decode cX5_fork 6 = .ok (.if_icmp .eq 12, 3) := by decide +kernel
theorem dX5_fork_9 : decode cX5_fork 9 = .ok (.aload_n 0, 1) := by decide +kernel
theorem dX5_fork_10 : decode cX5_fork 10 = .ok (.iload_n 2, 1) := by decide +kernel
theorem dX5_fork_11 : decode cX5_fork 11 = .ok (.invokevirtual 59, 3) := by decide +kernel
theorem dX5_fork_14 : decode cX5_fork 14 = .ok (.iconst (-1), 1) := by decide +kernel
theorem dX5_fork_15 : decode cX5_fork 15 = .ok (.if_icmp .ne 6, 3) := by decide +kernel
theorem dX5_fork_18 : decode cX5_fork 18 = .ok (.bipush (-2), 2) := by decide +kernel
theorem dX5_fork_20 : decode cX5_fork 20 = .ok (.ireturn, 1) := by decide +kernel
theorem dX5_fork_21 : decode cX5_fork 21 = .ok (.aload_n 0, 1) := by decide +kernel
theorem dX5_fork_22 : decode cX5_fork 22 = .ok (.iload_n 2, 1) := by decide +kernel
theorem dX5_fork_23 : decode cX5_fork 23 = .ok (.invokevirtual 62, 3) := by decide +kernel
theorem dX5_fork_26 : decode cX5_fork 26 = .ok (.iload_n 1, 1) := by decide +kernel
theorem dX5_fork_27 : decode cX5_fork 27 = .ok (.istore_n 3, 1) := by decide +kernel
theorem dX5_fork_28 : decode cX5_fork 28 = .ok (.iload_n 3, 1) := by decide +kernel
theorem dX5_fork_29 : decode cX5_fork 29 = .ok (.iconst (-1), 1) := by decide +kernel
theorem dX5_fork_30 : decode cX5_fork 30 = .ok (.if_icmp .eq 39, 3) := by decide +kernel
theorem dX5_fork_33 : decode cX5_fork 33 = .ok (.aload_n 0, 1) := by decide +kernel
theorem dX5_fork_34 : decode cX5_fork 34 = .ok (.iload_n 3, 1) := by decide +kernel
theorem dX5_fork_35 : decode cX5_fork 35 = .ok (.invokevirtual 185, 3) := by decide +kernel
theorem dX5_fork_38 : decode cX5_fork 38 = .ok (.ifCond .ne 31, 3) := by decide +kernel
theorem dX5_fork_41 : decode cX5_fork 41 = .ok (.aload_n 0, 1) := by decide +kernel
theorem dX5_fork_42 : decode cX5_fork 42 = .ok (.iload_n 3, 1) := by decide +kernel
theorem dX5_fork_43 : decode cX5_fork 43 = .ok (.invokevirtual 59, 3) := by decide +kernel
theorem dX5_fork_46 : decode cX5_fork 46 = .ok (.istore 4, 2) := by decide +kernel
theorem dX5_fork_48 : decode cX5_fork 48 = .ok (.iload 4, 2) := by decide +kernel
theorem dX5_fork_50 : decode cX5_fork 50 = .ok (.iconst (-1), 1) := by decide +kernel
theorem dX5_fork_51 : decode cX5_fork 51 = .ok (.if_icmp .ne 7, 3) := by decide +kernel
theorem dX5_fork_54 : decode cX5_fork 54 = .ok (.iconst (-1), 1) := by decide +kernel
theorem dX5_fork_55 : decode cX5_fork 55 = .ok (.goto 10, 3) := by decide +kernel
theorem dX5_fork_58 : decode cX5_fork 58 = .ok (.aload_n 0, 1) := by decide +kernel
theorem dX5_fork_59 : decode cX5_fork 59 = .ok (.iload 4, 2) := by decide +kernel
theorem dX5_fork_61 : decode cX5_fork 61 = .ok (.iconst 3, 1) := by decide +kernel
theorem dX5_fork_62 : decode cX5_fork 62 = .ok (.invokevirtual 38, 3) := by decide +kernel
theorem dX5_fork_65 : decode cX5_fork 65 = .ok (.istore_n 3, 1) := by decide +kernel
theorem dX5_fork_66 : decode cX5_fork 66 = .ok (.goto (-38), 3) := by decide +kernel
theorem dX5_fork_69 : decode cX5_fork 69 = .ok (.iload_n 3, 1) := by decide +kernel
theorem dX5_fork_70 : decode cX5_fork 70 = .ok (.ireturn, 1) := by decide +kernel
theorem dX5_nearest_0 : decode cX5_nearest 0 = .ok (.aload_n 0, 1) := by decide +kernel
theorem dX5_nearest_1 : decode cX5_nearest 1 = .ok (.invokevirtual 143, 3) := by decide +kernel
theorem dX5_nearest_4 : decode cX5_nearest 4 = .ok (.aload_n 0, 1) := by decide +kernel
theorem dX5_nearest_5 : decode cX5_nearest 5 = .ok (.invokevirtual 149, 3) := by decide +kernel
theorem dX5_nearest_8 : decode cX5_nearest 8 = .ok (.iconst (-1), 1) := by decide +kernel
theorem dX5_nearest_9 : decode cX5_nearest 9 = .ok (.istore_n 1, 1) := by decide +kernel
theorem dX5_nearest_10 : decode cX5_nearest 10 = .ok (.iconst 0, 1) := by decide +kernel
theorem dX5_nearest_11 : decode cX5_nearest 11 = .ok (.istore_n 2, 1) := by decide +kernel
theorem dX5_nearest_12 : decode cX5_nearest 12 = .ok (.iconst 0, 1) := by decide +kernel
theorem dX5_nearest_13 : decode cX5_nearest 13 = .ok (.istore_n 3, 1) := by decide +kernel
theorem dX5_nearest_14 : decode cX5_nearest 14 = .ok (.iload_n 3, 1) := by decide +kernel
theorem dX5_nearest_15 : decode cX5_nearest 15 = .ok (.aload_n 0, 1) := by decide +kernel
theorem dX5_nearest_16 : decode cX5_nearest 16 = .ok (.getfield 7, 3) := by decide +kernel
theorem dX5_nearest_19 : decode cX5_nearest 19 = .ok (.sipush 580, 3) := by decide +kernel
theorem dX5_nearest_22 : decode cX5_nearest 22 = .ok (.iaload, 1) := by decide +kernel
theorem dX5_nearest_23 : decode cX5_nearest 23 = .ok (.if_icmp .ge 110, 3) := by decide +kernel
theorem dX5_nearest_26 : decode cX5_nearest 26 = .ok (.aload_n 0, 1) := by decide +kernel
theorem dX5_nearest_27 : decode cX5_nearest 27 = .ok (.iload_n 3, 1) := by decide +kernel
theorem dX5_nearest_28 : decode cX5_nearest 28 = .ok (.iconst 1, 1) := by decide +kernel
theorem dX5_nearest_29 : decode cX5_nearest 29 = .ok (.invokevirtual 38, 3) := by decide +kernel
theorem dX5_nearest_32 : decode cX5_nearest 32 = .ok (.aload_n 0, 1) := by decide +kernel
theorem dX5_nearest_33 : decode cX5_nearest 33 = .ok (.getfield 7, 3) := by decide +kernel
theorem dX5_nearest_36 : decode cX5_nearest 36 = .ok (.sipush 582, 3) := by decide +kernel
theorem dX5_nearest_39 : decode cX5_nearest 39 = .ok (.iaload, 1) := by decide +kernel
theorem dX5_nearest_40 : decode cX5_nearest 40 = .ok (.if_icmp .gt 87, 3) := by decide +kernel
theorem dX5_nearest_43 : decode cX5_nearest 43 = .ok (.aload_n 0, 1) := by decide +kernel
theorem dX5_nearest_44 : decode cX5_nearest 44 = .ok (.aload_n 0, 1) := by decide +kernel
theorem dX5_nearest_45 : decode cX5_nearest 45 = .ok (.iload_n 3, 1) := by decide +kernel
theorem dX5_nearest_46 : decode cX5_nearest 46 = .ok (.iconst 0, 1) := by decide +kernel
theorem dX5_nearest_47 : decode cX5_nearest 47 = .ok (.invokevirtual 38, 3) := by decide +kernel
theorem dX5_nearest_50 : decode cX5_nearest 50 = .ok (.invokevirtual 152, 3) := by decide +kernel
theorem dX5_nearest_53 : decode cX5_nearest 53 = .ok (.ifCond .eq 74, 3) := by decide +kernel
theorem dX5_nearest_56 : decode cX5_nearest 56 = .ok (.aload_n 0, 1) := by decide +kernel
theorem dX5_nearest_57 : decode cX5_nearest 57 = .ok (.aload_n 0, 1) := by decide +kernel
theorem dX5_nearest_58 : decode cX5_nearest 58 = .ok (.getfield 7, 3) := by decide +kernel
theorem dX5_nearest_61 : decode cX5_nearest 61 = .ok (.sipush 582, 3) := by decide +kernel
theorem dX5_nearest_64 : decode cX5_nearest 64 = .ok (.iaload, 1) := by decide +kernel
theorem dX5_nearest_65 : decode cX5_nearest 65 = .ok (.invokevirtual 70, 3) := by decide +kernel
theorem dX5_nearest_68 : decode cX5_nearest 68 = .ok (.aload_n 0, 1) := by decide +kernel
theorem dX5_nearest_69 : decode cX5_nearest 69 = .ok (.aload_n 0, 1) := by decide +kernel
theorem dX5_nearest_70 : decode cX5_nearest 70 = .ok (.getfield 46, 3) := by decide +kernel
theorem dX5_nearest_73 : decode cX5_nearest 73 = .ok (.invokestatic 52, 3) := by decide +kernel
theorem dX5_nearest_76 : decode cX5_nearest 76 = .ok (.invokevirtual 155, 3) := by decide +kernel
theorem dX5_nearest_79 : decode cX5_nearest 79 = .ok (.istore 4, 2) := by decide +kernel
theorem dX5_nearest_81 : decode cX5_nearest 81 = .ok (.iload_n 1, 1) := by decide +kernel
theorem dX5_nearest_82 : decode cX5_nearest 82 = .ok (.iconst (-1), 1) := by decide +kernel
theorem dX5_nearest_83 : decode cX5_nearest 83 = .ok (.if_icmp .eq 9, 3) := by decide +kernel
theorem dX5_nearest_86 : decode cX5_nearest 86 = .ok (.iload 4, 2) := by decide +kernel
theorem dX5_nearest_88 : decode cX5_nearest 88 = .ok (.iload_n 2, 1) := by decide +kernel
theorem dX5_nearest_89 : decode cX5_nearest 89 = .ok (.if_icmp .ge 7, 3) := by decide +kernel
theorem dX5_nearest_92 : decode cX5_nearest 92 = .ok (.iconst 1, 1) := by decide +kernel
theorem dX5_nearest_93 : decode cX5_nearest 93 = .ok (.goto 4, 3) := by decide +kernel
theorem dX5_nearest_96 : decode cX5_nearest 96 = .ok (.iconst 0, 1) := by decide +kernel
theorem dX5_nearest_97 : decode cX5_nearest 97 = .ok (.istore 5, 2) := by decide +kernel
theorem dX5_nearest_99 : decode cX5_nearest 99 = .ok (.iload 5, 2) := by decide +kernel
theorem dX5_nearest_101 : decode cX5_nearest 101 = .ok (.ifCond .eq 12, 3) := by decide +kernel
theorem dX5_nearest_104 : decode cX5_nearest 104 = .ok (.aload_n 0, 1) := by decide +kernel
theorem dX5_nearest_105 : decode cX5_nearest 105 = .ok (.iload_n 3, 1) := by decide +kernel
theorem dX5_nearest_106 : decode cX5_nearest 106 = .ok (.iconst 0, 1) := by decide +kernel
theorem dX5_nearest_107 : decode cX5_nearest 107 = .ok (.invokevirtual 38, 3) := by decide +kernel
theorem dX5_nearest_110 : decode cX5_nearest 110 = .ok (.goto 4, 3) := by decide +kernel
theorem dX5_nearest_113 : decode cX5_nearest 113 = .ok (.iload_n 1, 1) := by decide +kernel
theorem dX5_nearest_114 : decode cX5_nearest 114 = .ok (.istore_n 1, 1) := by decide +kernel
theorem dX5_nearest_115 : decode cX5_nearest 115 = .ok (.iload 5, 2) := by decide +kernel
theorem dX5_nearest_117 : decode cX5_nearest 117 = .ok (.ifCond .eq 8, 3) := by decide +kernel
theorem dX5_nearest_120 : decode cX5_nearest 120 = .ok (.iload 4, 2) := by decide +kernel
theorem dX5_nearest_122 : decode cX5_nearest 122 = .ok (.goto 4, 3) := by decide +kernel
theorem dX5_nearest_125 : decode cX5_nearest 125 = .ok (.iload_n 2, 1) := by decide +kernel
theorem dX5_nearest_126 : decode cX5_nearest 126 = .ok (.istore_n 2, 1) := by decide +kernel
theorem dX5_nearest_127 : decode cX5_nearest 127 = .ok (.iinc 3 1, 3) := by decide +kernel
theorem dX5_nearest_130 : decode cX5_nearest 130 = .ok (.goto (-116), 3) := by decide +kernel
theorem dX5_nearest_133 : decode cX5_nearest 133 = .ok (.iload_n 1, 1) := by decide +kernel
theorem dX5_nearest_134 : decode cX5_nearest 134 = .ok (.ireturn, 1) := by decide +kernel
theorem dX5_counts_0 : decode cX5_counts 0 = .ok (.iconst 0, 1) := by decide +kernel
theorem dX5_counts_1 : decode cX5_counts 1 = .ok (.istore_n 2, 1) := by decide +kernel
theorem dX5_counts_2 : decode cX5_counts 2 = .ok (.iconst 0, 1) := by decide +kernel
theorem dX5_counts_3 : decode cX5_counts 3 = .ok (.istore_n 3, 1) := by decide +kernel
theorem dX5_counts_4 : decode cX5_counts 4 = .ok (.iload_n 3, 1) := by decide +kernel
theorem dX5_counts_5 : decode cX5_counts 5 = .ok (.aload_n 0, 1) := by decide +kernel
theorem dX5_counts_6 : decode cX5_counts 6 = .ok (.getfield 7, 3) := by decide +kernel
theorem dX5_counts_9 : decode cX5_counts 9 = .ok (.sipush 580, 3) := by decide +kernel
theorem dX5_counts_12 : decode cX5_counts 12 = .ok (.iaload, 1) := by decide +kernel
theorem dX5_counts_13 : decode cX5_counts 13 = .ok (.if_icmp .ge 48, 3) := by decide +kernel
theorem dX5_counts_16 : decode cX5_counts 16 = .ok (.iload_n 2, 1) := by decide +kernel
theorem dX5_counts_17 : decode cX5_counts 17 = .ok (.iload_n 1, 1) := by decide +kernel
theorem dX5_counts_18 : decode cX5_counts 18 = .ok (.iconst 4, 1) := by decide +kernel
theorem dX5_counts_19 : decode cX5_counts 19 = .ok (.if_icmp .ne 11, 3) := by decide +kernel
theorem dX5_counts_22 : decode cX5_counts 22 = .ok (.aload_n 0, 1) := by decide +kernel
theorem dX5_counts_23 : decode cX5_counts 23 = .ok (.iload_n 3, 1) := by decide +kernel
theorem dX5_counts_24 : decode cX5_counts 24 = .ok (.invokevirtual 66, 3) := by decide +kernel
theorem dX5_counts_27 : decode cX5_counts 27 = .ok (.ifCond .ne 21, 3) := by decide +kernel
theorem dX5_counts_30 : decode cX5_counts 30 = .ok (.iload_n 1, 1) := by decide +kernel
theorem dX5_counts_31 : decode cX5_counts 31 = .ok (.iconst 5, 1) := by decide +kernel
theorem dX5_counts_32 : decode cX5_counts 32 = .ok (.if_icmp .ne 20, 3) := by decide +kernel
theorem dX5_counts_35 : decode cX5_counts 35 = .ok (.aload_n 0, 1) := by decide +kernel
theorem dX5_counts_36 : decode cX5_counts 36 = .ok (.aload_n 0, 1) := by decide +kernel
theorem dX5_counts_37 : decode cX5_counts 37 = .ok (.iload_n 3, 1) := by decide +kernel
theorem dX5_counts_38 : decode cX5_counts 38 = .ok (.iconst 0, 1) := by decide +kernel
theorem dX5_counts_39 : decode cX5_counts 39 = .ok (.invokevirtual 38, 3) := by decide +kernel
theorem dX5_counts_42 : decode cX5_counts 42 = .ok (.invokevirtual 152, 3) := by decide +kernel
theorem dX5_counts_45 : decode cX5_counts 45 = .ok (.ifCond .ne 7, 3) := by decide +kernel
theorem dX5_counts_48 : decode cX5_counts 48 = .ok (.iconst 1, 1) := by decide +kernel
theorem dX5_counts_49 : decode cX5_counts 49 = .ok (.goto 4, 3) := by decide +kernel
theorem dX5_counts_52 : decode cX5_counts 52 = .ok (.iconst 0, 1) := by decide +kernel
theorem dX5_counts_53 : decode cX5_counts 53 = .ok (.iadd, 1) := by decide +kernel
theorem dX5_counts_54 : decode cX5_counts 54 = .ok (.istore_n 2, 1) := by decide +kernel
theorem dX5_counts_55 : decode cX5_counts 55 = .ok (.iinc 3 1, 3) := by decide +kernel
theorem dX5_counts_58 : decode cX5_counts 58 = .ok (.goto (-54), 3) := by decide +kernel
theorem dX5_counts_61 : decode cX5_counts 61 = .ok (.iload_n 2, 1) := by decide +kernel
theorem dX5_counts_62 : decode cX5_counts 62 = .ok (.ireturn, 1) := by decide +kernel
theorem dX5_longest_0 : decode cX5_longest 0 = .ok (.iconst 0, 1) := by decide +kernel
theorem dX5_longest_1 : decode cX5_longest 1 = .ok (.istore_n 1, 1) := by decide +kernel
theorem dX5_longest_2 : decode cX5_longest 2 = .ok (.iconst 0, 1) := by decide +kernel
theorem dX5_longest_3 : decode cX5_longest 3 = .ok (.istore_n 2, 1) := by decide +kernel
theorem dX5_longest_4 : decode cX5_longest 4 = .ok (.iload_n 2, 1) := by decide +kernel
theorem dX5_longest_5 : decode cX5_longest 5 = .ok (.aload_n 0, 1) := by decide +kernel
theorem dX5_longest_6 : decode cX5_longest 6 = .ok (.getfield 7, 3) := by decide +kernel
theorem dX5_longest_9 : decode cX5_longest 9 = .ok (.sipush 580, 3) := by decide +kernel
theorem dX5_longest_12 : decode cX5_longest 12 = .ok (.iaload, 1) := by decide +kernel
theorem dX5_longest_13 : decode cX5_longest 13 = .ok (.if_icmp .ge 31, 3) := by decide +kernel
theorem dX5_longest_16 : decode cX5_longest 16 = .ok (.aload_n 0, 1) := by decide +kernel
theorem dX5_longest_17 : decode cX5_longest 17 = .ok (.aload_n 0, 1) := by decide +kernel
theorem dX5_longest_18 : decode cX5_longest 18 = .ok (.iload_n 2, 1) := by decide +kernel
theorem dX5_longest_19 : decode cX5_longest 19 = .ok (.iconst 0, 1) := by decide +kernel
theorem dX5_longest_20 : decode cX5_longest 20 = .ok (.invokevirtual 38, 3) := by decide +kernel
theorem dX5_longest_23 : decode cX5_longest 23 = .ok (.invokevirtual 173, 3) := by decide +kernel
theorem dX5_longest_26 : decode cX5_longest 26 = .ok (.istore_n 3, 1) := by decide +kernel
theorem dX5_longest_27 : decode cX5_longest 27 = .ok (.iload_n 3, 1) := by decide +kernel
theorem dX5_longest_28 : decode cX5_longest 28 = .ok (.iload_n 1, 1) := by decide +kernel
theorem dX5_longest_29 : decode cX5_longest 29 = .ok (.if_icmp .le 7, 3) := by decide +kernel
theorem dX5_longest_32 : decode cX5_longest 32 = .ok (.iload_n 3, 1) := by decide +kernel
theorem dX5_longest_33 : decode cX5_longest 33 = .ok (.goto 4, 3) := by decide +kernel
theorem dX5_longest_36 : decode cX5_longest 36 = .ok (.iload_n 1, 1) := by decide +kernel
theorem dX5_longest_37 : decode cX5_longest 37 = .ok (.istore_n 1, 1) := by decide +kernel
theorem dX5_longest_38 : decode cX5_longest 38 = .ok (.iinc 2 1, 3) := by decide +kernel
theorem dX5_longest_41 : decode cX5_longest 41 = .ok (.goto (-37), 3) := by decide +kernel
theorem dX5_longest_44 : decode cX5_longest 44 = .ok (.iload_n 1, 1) := by decide +kernel
theorem dX5_longest_45 : decode cX5_longest 45 = .ok (.ireturn, 1) := by decide +kernel
theorem dX5_count_0 : decode cX5_count 0 = .ok (.iload_n 1, 1) := by decide +kernel
theorem dX5_count_1 : decode cX5_count 1 = .ok (.tableswitch 152 0 12 #[67, 76, 85, 94, 103, 103, 109, 114, 123, 128, 133, 138, 138], 67) := by decide +kernel
theorem dX5_count_68 : decode cX5_count 68 = .ok (.aload_n 0, 1) := by decide +kernel
theorem dX5_count_69 : decode cX5_count 69 = .ok (.getfield 7, 3) := by decide +kernel
theorem dX5_count_72 : decode cX5_count 72 = .ok (.sipush 582, 3) := by decide +kernel
theorem dX5_count_75 : decode cX5_count 75 = .ok (.iaload, 1) := by decide +kernel
theorem dX5_count_76 : decode cX5_count 76 = .ok (.ireturn, 1) := by decide +kernel
theorem dX5_count_77 : decode cX5_count 77 = .ok (.aload_n 0, 1) := by decide +kernel
theorem dX5_count_78 : decode cX5_count 78 = .ok (.getfield 7, 3) := by decide +kernel
theorem dX5_count_81 : decode cX5_count 81 = .ok (.sipush 595, 3) := by decide +kernel
theorem dX5_count_84 : decode cX5_count 84 = .ok (.iaload, 1) := by decide +kernel
theorem dX5_count_85 : decode cX5_count 85 = .ok (.ireturn, 1) := by decide +kernel
theorem dX5_count_86 : decode cX5_count 86 = .ok (.aload_n 0, 1) := by decide +kernel
theorem dX5_count_87 : decode cX5_count 87 = .ok (.invokevirtual 143, 3) := by decide +kernel
theorem dX5_count_90 : decode cX5_count 90 = .ok (.aload_n 0, 1) := by decide +kernel
theorem dX5_count_91 : decode cX5_count 91 = .ok (.invokevirtual 73, 3) := by decide +kernel
theorem dX5_count_94 : decode cX5_count 94 = .ok (.ireturn, 1) := by decide +kernel
theorem dX5_count_95 : decode cX5_count 95 = .ok (.aload_n 0, 1) := by decide +kernel
theorem dX5_count_96 : decode cX5_count 96 = .ok (.getfield 7, 3) := by decide +kernel
theorem dX5_count_99 : decode cX5_count 99 = .ok (.sipush 580, 3) := by decide +kernel
theorem dX5_count_102 : decode cX5_count 102 = .ok (.iaload, 1) := by decide +kernel
theorem dX5_count_103 : decode cX5_count 103 = .ok (.ireturn, 1) := by decide +kernel
theorem dX5_count_104 : decode cX5_count 104 = .ok (.aload_n 0, 1) := by decide +kernel
theorem dX5_count_105 : decode cX5_count 105 = .ok (.iload_n 1, 1) := by decide +kernel
theorem dX5_count_106 : decode cX5_count 106 = .ok (.invokevirtual 188, 3) := by decide +kernel
theorem dX5_count_109 : decode cX5_count 109 = .ok (.ireturn, 1) := by decide +kernel
theorem dX5_count_110 : decode cX5_count 110 = .ok (.aload_n 0, 1) := by decide +kernel
theorem dX5_count_111 : decode cX5_count 111 = .ok (.invokevirtual 176, 3) := by decide +kernel
theorem dX5_count_114 : decode cX5_count 114 = .ok (.ireturn, 1) := by decide +kernel
theorem dX5_count_115 : decode cX5_count 115 = .ok (.aload_n 0, 1) := by decide +kernel
theorem dX5_count_116 : decode cX5_count 116 = .ok (.getfield 7, 3) := by decide +kernel
theorem dX5_count_119 : decode cX5_count 119 = .ok (.sipush 581, 3) := by decide +kernel
theorem dX5_count_122 : decode cX5_count 122 = .ok (.iaload, 1) := by decide +kernel
theorem dX5_count_123 : decode cX5_count 123 = .ok (.ireturn, 1) := by decide +kernel
theorem dX5_count_124 : decode cX5_count 124 = .ok (.aload_n 0, 1) := by decide +kernel
theorem dX5_count_125 : decode cX5_count 125 = .ok (.invokevirtual 191, 3) := by decide +kernel
theorem dX5_count_128 : decode cX5_count 128 = .ok (.ireturn, 1) := by decide +kernel
theorem dX5_count_129 : decode cX5_count 129 = .ok (.aload_n 0, 1) := by decide +kernel
theorem dX5_count_130 : decode cX5_count 130 = .ok (.getfield 42, 3) := by decide +kernel
theorem dX5_count_133 : decode cX5_count 133 = .ok (.ireturn, 1) := by decide +kernel
theorem dX5_count_134 : decode cX5_count 134 = .ok (.aload_n 0, 1) := by decide +kernel
theorem dX5_count_135 : decode cX5_count 135 = .ok (.getfield 85, 3) := by decide +kernel
theorem dX5_count_138 : decode cX5_count 138 = .ok (.ireturn, 1) := by decide +kernel
theorem dX5_count_139 : decode cX5_count 139 = .ok (.aload_n 0, 1) := by decide +kernel
theorem dX5_count_140 : decode cX5_count 140 = .ok (.getfield 7, 3) := by decide +kernel
theorem dX5_count_143 : decode cX5_count 143 = .ok (.sipush 596, 3) := by decide +kernel
theorem dX5_count_146 : decode cX5_count 146 = .ok (.iload_n 1, 1) := by decide +kernel
theorem dX5_count_147 : decode cX5_count 147 = .ok (.iadd, 1) := by decide +kernel
theorem dX5_count_148 : decode cX5_count 148 = .ok (.bipush 11, 2) := by decide +kernel
theorem dX5_count_150 : decode cX5_count 150 = .ok (.isub, 1) := by decide +kernel
theorem dX5_count_151 : decode cX5_count 151 = .ok (.iaload, 1) := by decide +kernel
theorem dX5_count_152 : decode cX5_count 152 = .ok (.ireturn, 1) := by decide +kernel
theorem dX5_count_153 : decode cX5_count 153 = .ok (.bipush (-2), 2) := by decide +kernel
theorem dX5_count_155 : decode cX5_count 155 = .ok (.ireturn, 1) := by decide +kernel
theorem dX5_mixes_0 : decode cX5_mixes 0 = .ok (.aload_n 0, 1) := by decide +kernel
theorem dX5_mixes_1 : decode cX5_mixes 1 = .ok (.ldc2_w 194, 3) := by decide +kernel
theorem dX5_mixes_4 : decode cX5_mixes 4 = .ok (.aload_n 0, 1) := by decide +kernel
theorem dX5_mixes_5 : decode cX5_mixes 5 = .ok (.getfield 196, 3) := by decide +kernel
theorem dX5_mixes_8 : decode cX5_mixes 8 = .ok (.lmul, 1) := by decide +kernel
theorem dX5_mixes_9 : decode cX5_mixes 9 = .ok (.lload_n 1, 1) := by decide +kernel
theorem dX5_mixes_10 : decode cX5_mixes 10 = .ok (.ladd, 1) := by decide +kernel
theorem dX5_mixes_11 : decode cX5_mixes 11 = .ok (.putfield 196, 3) := by decide +kernel
theorem dX5_mixes_14 : decode cX5_mixes 14 = .ok (.return_, 1) := by decide +kernel
theorem dX5_mixesKept_0 : decode cX5_mixesKept 0 = .ok (.aload_n 0, 1) := by decide +kernel
theorem dX5_mixesKept_1 : decode cX5_mixesKept 1 = .ok (.aload_n 0, 1) := by decide +kernel
theorem dX5_mixesKept_2 : decode cX5_mixesKept 2 = .ok (.iload_n 1, 1) := by decide +kernel
theorem dX5_mixesKept_3 : decode cX5_mixesKept 3 = .ok (.iconst 0, 1) := by decide +kernel
theorem dX5_mixesKept_4 : decode cX5_mixesKept 4 = .ok (.invokevirtual 38, 3) := by decide +kernel
theorem dX5_mixesKept_7 : decode cX5_mixesKept 7 = .ok (.i2l, 1) := by decide +kernel
theorem dX5_mixesKept_8 : decode cX5_mixesKept 8 = .ok (.invokevirtual 200, 3) := by decide +kernel
theorem dX5_mixesKept_11 : decode cX5_mixesKept 11 = .ok (.iconst 0, 1) := by decide +kernel
theorem dX5_mixesKept_12 : decode cX5_mixesKept 12 = .ok (.istore_n 2, 1) := by decide +kernel
theorem dX5_mixesKept_13 : decode cX5_mixesKept 13 = .ok (.iload_n 2, 1) := by decide +kernel
theorem dX5_mixesKept_14 : decode cX5_mixesKept 14 = .ok (.bipush 8, 2) := by decide +kernel
theorem dX5_mixesKept_16 : decode cX5_mixesKept 16 = .ok (.if_icmp .ge 20, 3) := by decide +kernel
theorem dX5_mixesKept_19 : decode cX5_mixesKept 19 = .ok (.aload_n 0, 1) := by decide +kernel
theorem dX5_mixesKept_20 : decode cX5_mixesKept 20 = .ok (.aload_n 0, 1) := by decide +kernel
theorem dX5_mixesKept_21 : decode cX5_mixesKept 21 = .ok (.iload_n 1, 1) := by decide +kernel
theorem dX5_mixesKept_22 : decode cX5_mixesKept 22 = .ok (.iload_n 2, 1) := by decide +kernel
theorem dX5_mixesKept_23 : decode cX5_mixesKept 23 = .ok (.invokevirtual 182, 3) := by decide +kernel
theorem dX5_mixesKept_26 : decode cX5_mixesKept 26 = .ok (.i2l, 1) := by decide +kernel
theorem dX5_mixesKept_27 : decode cX5_mixesKept 27 = .ok (.invokevirtual 200, 3) := by decide +kernel
theorem dX5_mixesKept_30 : decode cX5_mixesKept 30 = .ok (.iinc 2 1, 3) := by decide +kernel
theorem dX5_mixesKept_33 : decode cX5_mixesKept 33 = .ok (.goto (-20), 3) := by decide +kernel
theorem dX5_mixesKept_36 : decode cX5_mixesKept 36 = .ok (.iconst 0, 1) := by decide +kernel
theorem dX5_mixesKept_37 : decode cX5_mixesKept 37 = .ok (.istore_n 2, 1) := by decide +kernel
theorem dX5_mixesKept_38 : decode cX5_mixesKept 38 = .ok (.iload_n 2, 1) := by decide +kernel
theorem dX5_mixesKept_39 : decode cX5_mixesKept 39 = .ok (.aload_n 0, 1) := by decide +kernel
theorem dX5_mixesKept_40 : decode cX5_mixesKept 40 = .ok (.iload_n 1, 1) := by decide +kernel
theorem dX5_mixesKept_41 : decode cX5_mixesKept 41 = .ok (.iconst 4, 1) := by decide +kernel
theorem dX5_mixesKept_42 : decode cX5_mixesKept 42 = .ok (.invokevirtual 38, 3) := by decide +kernel
theorem dX5_mixesKept_45 : decode cX5_mixesKept 45 = .ok (.if_icmp .ge 36, 3) := by decide +kernel
theorem dX5_mixesKept_48 : decode cX5_mixesKept 48 = .ok (.aload_n 0, 1) := by decide +kernel
theorem dX5_mixesKept_49 : decode cX5_mixesKept 49 = .ok (.aload_n 0, 1) := by decide +kernel
theorem dX5_mixesKept_50 : decode cX5_mixesKept 50 = .ok (.iload_n 1, 1) := by decide +kernel
theorem dX5_mixesKept_51 : decode cX5_mixesKept 51 = .ok (.iconst 5, 1) := by decide +kernel
theorem dX5_mixesKept_52 : decode cX5_mixesKept 52 = .ok (.iload_n 2, 1) := by decide +kernel
theorem dX5_mixesKept_53 : decode cX5_mixesKept 53 = .ok (.iadd, 1) := by decide +kernel
theorem dX5_mixesKept_54 : decode cX5_mixesKept 54 = .ok (.invokevirtual 38, 3) := by decide +kernel
theorem dX5_mixesKept_57 : decode cX5_mixesKept 57 = .ok (.i2l, 1) := by decide +kernel
theorem dX5_mixesKept_58 : decode cX5_mixesKept 58 = .ok (.invokevirtual 200, 3) := by decide +kernel
theorem dX5_mixesKept_61 : decode cX5_mixesKept 61 = .ok (.aload_n 0, 1) := by decide +kernel
theorem dX5_mixesKept_62 : decode cX5_mixesKept 62 = .ok (.aload_n 0, 1) := by decide +kernel
theorem dX5_mixesKept_63 : decode cX5_mixesKept 63 = .ok (.iload_n 1, 1) := by decide +kernel
theorem dX5_mixesKept_64 : decode cX5_mixesKept 64 = .ok (.bipush 17, 2) := by decide +kernel
theorem dX5_mixesKept_66 : decode cX5_mixesKept 66 = .ok (.iload_n 2, 1) := by decide +kernel
theorem dX5_mixesKept_67 : decode cX5_mixesKept 67 = .ok (.iadd, 1) := by decide +kernel
theorem dX5_mixesKept_68 : decode cX5_mixesKept 68 = .ok (.invokevirtual 38, 3) := by decide +kernel
theorem dX5_mixesKept_71 : decode cX5_mixesKept 71 = .ok (.i2l, 1) := by decide +kernel
theorem dX5_mixesKept_72 : decode cX5_mixesKept 72 = .ok (.invokevirtual 200, 3) := by decide +kernel
theorem dX5_mixesKept_75 : decode cX5_mixesKept 75 = .ok (.iinc 2 1, 3) := by decide +kernel
theorem dX5_mixesKept_78 : decode cX5_mixesKept 78 = .ok (.goto (-40), 3) := by decide +kernel
theorem dX5_mixesKept_81 : decode cX5_mixesKept 81 = .ok (.aload_n 0, 1) := by decide +kernel
theorem dX5_mixesKept_82 : decode cX5_mixesKept 82 = .ok (.aload_n 0, 1) := by decide +kernel
theorem dX5_mixesKept_83 : decode cX5_mixesKept 83 = .ok (.aload_n 0, 1) := by decide +kernel
theorem dX5_mixesKept_84 : decode cX5_mixesKept 84 = .ok (.iload_n 1, 1) := by decide +kernel
theorem dX5_mixesKept_85 : decode cX5_mixesKept 85 = .ok (.iconst 0, 1) := by decide +kernel
theorem dX5_mixesKept_86 : decode cX5_mixesKept 86 = .ok (.invokevirtual 38, 3) := by decide +kernel
theorem dX5_mixesKept_89 : decode cX5_mixesKept 89 = .ok (.iconst 0, 1) := by decide +kernel
theorem dX5_mixesKept_90 : decode cX5_mixesKept 90 = .ok (.iconst 0, 1) := by decide +kernel
theorem dX5_mixesKept_91 : decode cX5_mixesKept 91 = .ok (.invokevirtual 204, 3) := by decide +kernel
theorem dX5_mixesKept_94 : decode cX5_mixesKept 94 = .ok (.i2l, 1) := by decide +kernel
theorem dX5_mixesKept_95 : decode cX5_mixesKept 95 = .ok (.invokevirtual 200, 3) := by decide +kernel
theorem dX5_mixesKept_98 : decode cX5_mixesKept 98 = .ok (.return_, 1) := by decide +kernel
theorem dX5_digest_0 : decode cX5_digest 0 = .ok (.aload_n 0, 1) := by decide +kernel
theorem dX5_digest_1 : decode cX5_digest 1 = .ok (.ldc2_w 208, 3) := by decide +kernel
theorem dX5_digest_4 : decode cX5_digest 4 = .ok (.putfield 196, 3) := by decide +kernel
theorem dX5_digest_7 : decode cX5_digest 7 = .ok (.iconst 0, 1) := by decide +kernel
theorem dX5_digest_8 : decode cX5_digest 8 = .ok (.istore_n 1, 1) := by decide +kernel
theorem dX5_digest_9 : decode cX5_digest 9 = .ok (.iload_n 1, 1) := by decide +kernel
theorem dX5_digest_10 : decode cX5_digest 10 = .ok (.bipush 13, 2) := by decide +kernel
theorem dX5_digest_12 : decode cX5_digest 12 = .ok (.if_icmp .ge 19, 3) := by decide +kernel
theorem dX5_digest_15 : decode cX5_digest 15 = .ok (.aload_n 0, 1) := by decide +kernel
theorem dX5_digest_16 : decode cX5_digest 16 = .ok (.aload_n 0, 1) := by decide +kernel
theorem dX5_digest_17 : decode cX5_digest 17 = .ok (.iload_n 1, 1) := by decide +kernel
theorem dX5_digest_18 : decode cX5_digest 18 = .ok (.invokevirtual 210, 3) := by decide +kernel
theorem dX5_digest_21 : decode cX5_digest 21 = .ok (.i2l, 1) := by decide +kernel
theorem dX5_digest_22 : decode cX5_digest 22 = .ok (.invokevirtual 200, 3) := by decide +kernel
theorem dX5_digest_25 : decode cX5_digest 25 = .ok (.iinc 1 1, 3) := by decide +kernel
theorem dX5_digest_28 : decode cX5_digest 28 = .ok (.goto (-19), 3) := by decide +kernel
theorem dX5_digest_31 : decode cX5_digest 31 = .ok (.iconst 0, 1) := by decide +kernel
theorem dX5_digest_32 : decode cX5_digest 32 = .ok (.istore_n 1, 1) := by decide +kernel
theorem dX5_digest_33 : decode cX5_digest 33 = .ok (.iload_n 1, 1) := by decide +kernel
theorem dX5_digest_34 : decode cX5_digest 34 = .ok (.aload_n 0, 1) := by decide +kernel
theorem dX5_digest_35 : decode cX5_digest 35 = .ok (.getfield 7, 3) := by decide +kernel
theorem dX5_digest_38 : decode cX5_digest 38 = .ok (.sipush 582, 3) := by decide +kernel
theorem dX5_digest_41 : decode cX5_digest 41 = .ok (.iaload, 1) := by decide +kernel
theorem dX5_digest_42 : decode cX5_digest 42 = .ok (.invokestatic 52, 3) := by decide +kernel
theorem dX5_digest_45 : decode cX5_digest 45 = .ok (.if_icmp .ge 24, 3) := by decide +kernel
theorem dX5_digest_48 : decode cX5_digest 48 = .ok (.aload_n 0, 1) := by decide +kernel
theorem dX5_digest_49 : decode cX5_digest 49 = .ok (.aload_n 0, 1) := by decide +kernel
theorem dX5_digest_50 : decode cX5_digest 50 = .ok (.getfield 7, 3) := by decide +kernel
theorem dX5_digest_53 : decode cX5_digest 53 = .ok (.sipush 583, 3) := by decide +kernel
theorem dX5_digest_56 : decode cX5_digest 56 = .ok (.iload_n 1, 1) := by decide +kernel
theorem dX5_digest_57 : decode cX5_digest 57 = .ok (.iadd, 1) := by decide +kernel
theorem dX5_digest_58 : decode cX5_digest 58 = .ok (.iaload, 1) := by decide +kernel
theorem dX5_digest_59 : decode cX5_digest 59 = .ok (.i2l, 1) := by decide +kernel
theorem dX5_digest_60 : decode cX5_digest 60 = .ok (.invokevirtual 200, 3) := by decide +kernel
theorem dX5_digest_63 : decode cX5_digest 63 = .ok (.iinc 1 1, 3) := by decide +kernel
theorem dX5_digest_66 : decode cX5_digest 66 = .ok (.goto (-33), 3) := by decide +kernel
theorem dX5_digest_69 : decode cX5_digest 69 = .ok (.iconst 0, 1) := by decide +kernel
theorem dX5_digest_70 : decode cX5_digest 70 = .ok (.istore_n 1, 1) := by decide +kernel
theorem dX5_digest_71 : decode cX5_digest 71 = .ok (.iload_n 1, 1) := by decide +kernel
theorem dX5_digest_72 : decode cX5_digest 72 = .ok (.aload_n 0, 1) := by decide +kernel
theorem dX5_digest_73 : decode cX5_digest 73 = .ok (.getfield 7, 3) := by decide +kernel
theorem dX5_digest_76 : decode cX5_digest 76 = .ok (.sipush 580, 3) := by decide +kernel
theorem dX5_digest_79 : decode cX5_digest 79 = .ok (.iaload, 1) := by decide +kernel
theorem dX5_digest_80 : decode cX5_digest 80 = .ok (.if_icmp .ge 14, 3) := by decide +kernel
theorem dX5_digest_83 : decode cX5_digest 83 = .ok (.aload_n 0, 1) := by decide +kernel
theorem dX5_digest_84 : decode cX5_digest 84 = .ok (.iload_n 1, 1) := by decide +kernel
theorem dX5_digest_85 : decode cX5_digest 85 = .ok (.invokevirtual 213, 3) := by decide +kernel
theorem dX5_digest_88 : decode cX5_digest 88 = .ok (.iinc 1 1, 3) := by decide +kernel
theorem dX5_digest_91 : decode cX5_digest 91 = .ok (.goto (-20), 3) := by decide +kernel
theorem dX5_digest_94 : decode cX5_digest 94 = .ok (.aload_n 0, 1) := by decide +kernel
theorem dX5_digest_95 : decode cX5_digest 95 = .ok (.aload_n 0, 1) := by decide +kernel
theorem dX5_digest_96 : decode cX5_digest 96 = .ok (.invokevirtual 216, 3) := by decide +kernel
theorem dX5_digest_99 : decode cX5_digest 99 = .ok (.i2l, 1) := by decide +kernel
theorem dX5_digest_100 : decode cX5_digest 100 = .ok (.invokevirtual 200, 3) := by decide +kernel
theorem dX5_digest_103 : decode cX5_digest 103 = .ok (.iconst 0, 1) := by decide +kernel
theorem dX5_digest_104 : decode cX5_digest 104 = .ok (.istore_n 1, 1) := by decide +kernel
theorem dX5_digest_105 : decode cX5_digest 105 = .ok (.iload_n 1, 1) := by decide +kernel
theorem dX5_digest_106 : decode cX5_digest 106 = .ok (.aload_n 0, 1) := by decide +kernel
theorem dX5_digest_107 : decode cX5_digest 107 = .ok (.getfield 85, 3) := by decide +kernel
theorem dX5_digest_110 : decode cX5_digest 110 = .ok (.if_icmp .ge 20, 3) := by decide +kernel
theorem dX5_digest_113 : decode cX5_digest 113 = .ok (.aload_n 0, 1) := by decide +kernel
theorem dX5_digest_114 : decode cX5_digest 114 = .ok (.aload_n 0, 1) := by decide +kernel
theorem dX5_digest_115 : decode cX5_digest 115 = .ok (.getfield 28, 3) := by decide +kernel
theorem dX5_digest_118 : decode cX5_digest 118 = .ok (.iload_n 1, 1) := by decide +kernel
theorem dX5_digest_119 : decode cX5_digest 119 = .ok (.iaload, 1) := by decide +kernel
theorem dX5_digest_120 : decode cX5_digest 120 = .ok (.i2l, 1) := by decide +kernel
theorem dX5_digest_121 : decode cX5_digest 121 = .ok (.invokevirtual 200, 3) := by decide +kernel
theorem dX5_digest_124 : decode cX5_digest 124 = .ok (.iinc 1 1, 3) := by decide +kernel
theorem dX5_digest_127 : decode cX5_digest 127 = .ok (.goto (-22), 3) := by decide +kernel
theorem dX5_digest_130 : decode cX5_digest 130 = .ok (.aload_n 0, 1) := by decide +kernel
theorem dX5_digest_131 : decode cX5_digest 131 = .ok (.getfield 196, 3) := by decide +kernel
theorem dX5_digest_134 : decode cX5_digest 134 = .ok (.lreturn, 1) := by decide +kernel
end
section
theorem dL_law_0 : decode cL_law 0 = .ok (.new 7, 3) := by decide +kernel
theorem dL_law_3 : decode cL_law 3 = .ok (.dup, 1) := by decide +kernel
theorem dL_law_4 : decode cL_law 4 = .ok (.invokespecial 9, 3) := by decide +kernel
theorem dL_law_7 : decode cL_law 7 = .ok (.astore_n 1, 1) := by decide +kernel
theorem dL_law_8 : decode cL_law 8 = .ok (.new 10, 3) := by decide +kernel
theorem dL_law_11 : decode cL_law 11 = .ok (.dup, 1) := by decide +kernel
theorem dL_law_12 : decode cL_law 12 = .ok (.invokespecial 12, 3) := by decide +kernel
theorem dL_law_15 : decode cL_law 15 = .ok (.astore_n 2, 1) := by decide +kernel
theorem dL_law_16 : decode cL_law 16 = .ok (.iconst 0, 1) := by decide +kernel
theorem dL_law_17 : decode cL_law 17 = .ok (.istore_n 3, 1) := by decide +kernel
theorem dL_law_18 : decode cL_law 18 = .ok (.iload_n 3, 1) := by decide +kernel
theorem dL_law_19 : decode cL_law 19 = .ok (.aload_n 0, 1) := by decide +kernel
theorem dL_law_20 : decode cL_law 20 = .ok (.arraylength, 1) := by decide +kernel
theorem dL_law_21 : decode cL_law 21 = .ok (.iconst 4, 1) := by decide +kernel
theorem dL_law_22 : decode cL_law 22 = .ok (.isub, 1) := by decide +kernel
theorem dL_law_23 : decode cL_law 23 = .ok (.if_icmp .gt 665, 3) := by decide +kernel
theorem dL_law_26 : decode cL_law 26 = .ok (.aload_n 0, 1) := by decide +kernel
theorem dL_law_27 : decode cL_law 27 = .ok (.iload_n 3, 1) := by decide +kernel
theorem dL_law_28 : decode cL_law 28 = .ok (.iaload, 1) := by decide +kernel
theorem dL_law_29 : decode cL_law 29 = .ok (.bipush 31, 2) := by decide +kernel
theorem dL_law_31 : decode cL_law 31 = .ok (.iand, 1) := by decide +kernel
theorem dL_law_32 : decode cL_law 32 = .ok (.tableswitch 650 0 20 #[100, 123, 136, 149, 162, 175, 198, 247, 290, 303, 336, 349, 372, 405, 448, 491, 534, 567, 600, 613, 636], 100) := by decide +kernel
theorem dL_law_132 : decode cL_law 132 = .ok (.aload_n 1, 1) := by decide +kernel
theorem dL_law_133 : decode cL_law 133 = .ok (.aload_n 0, 1) := by decide +kernel
theorem dL_law_134 : decode cL_law 134 = .ok (.iload_n 3, 1) := by decide +kernel
theorem dL_law_135 : decode cL_law 135 = .ok (.iconst 1, 1) := by decide +kernel
theorem dL_law_136 : decode cL_law 136 = .ok (.iadd, 1) := by decide +kernel
theorem dL_law_137 : decode cL_law 137 = .ok (.iaload, 1) := by decide +kernel
theorem dL_law_138 : decode cL_law 138 = .ok (.invokevirtual 13, 3) := by decide +kernel
theorem dL_law_141 : decode cL_law 141 = .ok (.aload_n 2, 1) := by decide +kernel
theorem dL_law_142 : decode cL_law 142 = .ok (.aload_n 0, 1) := by decide +kernel
theorem dL_law_143 : decode cL_law 143 = .ok (.iload_n 3, 1) := by decide +kernel
theorem dL_law_144 : decode cL_law 144 = .ok (.iconst 1, 1) := by decide +kernel
theorem dL_law_145 : decode cL_law 145 = .ok (.iadd, 1) := by decide +kernel
theorem dL_law_146 : decode cL_law 146 = .ok (.iaload, 1) := by decide +kernel
theorem dL_law_147 : decode cL_law 147 = .ok (.invokevirtual 17, 3) := by decide +kernel
theorem dL_law_150 : decode cL_law 150 = .ok (.if_icmp .eq 532, 3) := by decide +kernel
theorem dL_law_153 : decode cL_law 153 = .ok (.iconst 0, 1) := by decide +kernel
theorem dL_law_154 : decode cL_law 154 = .ok (.ireturn, 1) := by decide +kernel
theorem dL_law_155 : decode cL_law 155 = .ok (.aload_n 1, 1) := by decide +kernel
theorem dL_law_156 : decode cL_law 156 = .ok (.invokevirtual 18, 3) := by decide +kernel
theorem dL_law_159 : decode cL_law 159 = .ok (.aload_n 2, 1) := by decide +kernel
theorem dL_law_160 : decode cL_law 160 = .ok (.invokevirtual 22, 3) := by decide +kernel
theorem dL_law_163 : decode cL_law 163 = .ok (.if_icmp .eq 519, 3) := by decide +kernel
theorem dL_law_166 : decode cL_law 166 = .ok (.iconst 0, 1) := by decide +kernel
theorem dL_law_167 : decode cL_law 167 = .ok (.ireturn, 1) := by decide +kernel
theorem dL_law_168 : decode cL_law 168 = .ok (.aload_n 1, 1) := by decide +kernel
theorem dL_law_169 : decode cL_law 169 = .ok (.invokevirtual 23, 3) := by decide +kernel
theorem dL_law_172 : decode cL_law 172 = .ok (.aload_n 2, 1) := by decide +kernel
theorem dL_law_173 : decode cL_law 173 = .ok (.invokevirtual 26, 3) := by decide +kernel
theorem dL_law_176 : decode cL_law 176 = .ok (.if_icmp .eq 506, 3) := by decide +kernel
theorem dL_law_179 : decode cL_law 179 = .ok (.iconst 0, 1) := by decide +kernel
theorem dL_law_180 : decode cL_law 180 = .ok (.ireturn, 1) := by decide +kernel
theorem dL_law_181 : decode cL_law 181 = .ok (.aload_n 1, 1) := by decide +kernel
theorem dL_law_182 : decode cL_law 182 = .ok (.invokevirtual 27, 3) := by decide +kernel
theorem dL_law_185 : decode cL_law 185 = .ok (.aload_n 2, 1) := by decide +kernel
theorem dL_law_186 : decode cL_law 186 = .ok (.invokevirtual 30, 3) := by decide +kernel
theorem dL_law_189 : decode cL_law 189 = .ok (.if_icmp .eq 493, 3) := by decide +kernel
theorem dL_law_192 : decode cL_law 192 = .ok (.iconst 0, 1) := by decide +kernel
theorem dL_law_193 : decode cL_law 193 = .ok (.ireturn, 1) := by decide +kernel
theorem dL_law_194 : decode cL_law 194 = .ok (.aload_n 1, 1) := by decide +kernel
theorem dL_law_195 : decode cL_law 195 = .ok (.invokevirtual 31, 3) := by decide +kernel
theorem dL_law_198 : decode cL_law 198 = .ok (.aload_n 2, 1) := by decide +kernel
theorem dL_law_199 : decode cL_law 199 = .ok (.invokevirtual 34, 3) := by decide +kernel
theorem dL_law_202 : decode cL_law 202 = .ok (.if_icmp .eq 480, 3) := by decide +kernel
theorem dL_law_205 : decode cL_law 205 = .ok (.iconst 0, 1) := by decide +kernel
theorem dL_law_206 : decode cL_law 206 = .ok (.ireturn, 1) := by decide +kernel
theorem dL_law_207 : decode cL_law 207 = .ok (.aload_n 1, 1) := by decide +kernel
theorem dL_law_208 : decode cL_law 208 = .ok (.aload_n 0, 1) := by decide +kernel
theorem dL_law_209 : decode cL_law 209 = .ok (.iload_n 3, 1) := by decide +kernel
theorem dL_law_210 : decode cL_law 210 = .ok (.iconst 1, 1) := by decide +kernel
theorem dL_law_211 : decode cL_law 211 = .ok (.iadd, 1) := by decide +kernel
theorem dL_law_212 : decode cL_law 212 = .ok (.iaload, 1) := by decide +kernel
theorem dL_law_213 : decode cL_law 213 = .ok (.invokevirtual 35, 3) := by decide +kernel
theorem dL_law_216 : decode cL_law 216 = .ok (.aload_n 2, 1) := by decide +kernel
theorem dL_law_217 : decode cL_law 217 = .ok (.aload_n 0, 1) := by decide +kernel
theorem dL_law_218 : decode cL_law 218 = .ok (.iload_n 3, 1) := by decide +kernel
theorem dL_law_219 : decode cL_law 219 = .ok (.iconst 1, 1) := by decide +kernel
theorem dL_law_220 : decode cL_law 220 = .ok (.iadd, 1) := by decide +kernel
theorem dL_law_221 : decode cL_law 221 = .ok (.iaload, 1) := by decide +kernel
theorem dL_law_222 : decode cL_law 222 = .ok (.invokevirtual 38, 3) := by decide +kernel
theorem dL_law_225 : decode cL_law 225 = .ok (.if_icmp .eq 457, 3) := by decide +kernel
theorem dL_law_228 : decode cL_law 228 = .ok (.iconst 0, 1) := by decide +kernel
theorem dL_law_229 : decode cL_law 229 = .ok (.ireturn, 1) := by decide +kernel
theorem dL_law_230 : decode cL_law 230 = .ok (.aload_n 1, 1) := by decide +kernel
theorem dL_law_231 : decode cL_law 231 = .ok (.aload_n 0, 1) := by decide +kernel
theorem dL_law_232 : decode cL_law 232 = .ok (.iload_n 3, 1) := by decide +kernel
theorem dL_law_233 : decode cL_law 233 = .ok (.iconst 1, 1) := by decide +kernel
theorem dL_law_234 : decode cL_law 234 = .ok (.iadd, 1) := by decide +kernel
theorem dL_law_235 : decode cL_law 235 = .ok (.iaload, 1) := by decide +kernel
theorem dL_law_236 : decode cL_law 236 = .ok (.aload_n 0, 1) := by decide +kernel
theorem dL_law_237 : decode cL_law 237 = .ok (.iload_n 3, 1) := by decide +kernel
theorem dL_law_238 : decode cL_law 238 = .ok (.iconst 2, 1) := by decide +kernel
theorem dL_law_239 : decode cL_law 239 = .ok (.iadd, 1) := by decide +kernel
theorem dL_law_240 : decode cL_law 240 = .ok (.iaload, 1) := by decide +kernel
theorem dL_law_241 : decode cL_law 241 = .ok (.ifCond .eq 7, 3) := by decide +kernel
theorem dL_law_244 : decode cL_law 244 = .ok (.iconst 1, 1) := by decide +kernel
theorem dL_law_245 : decode cL_law 245 = .ok (.goto 4, 3) := by decide +kernel
theorem dL_law_248 : decode cL_law 248 = .ok (.iconst 0, 1) := by decide +kernel
theorem dL_law_249 : decode cL_law 249 = .ok (.invokevirtual 39, 3) := by decide +kernel
theorem dL_law_252 : decode cL_law 252 = .ok (.aload_n 2, 1) := by decide +kernel
theorem dL_law_253 : decode cL_law 253 = .ok (.aload_n 0, 1) := by decide +kernel
theorem dL_law_254 : decode cL_law 254 = .ok (.iload_n 3, 1) := by decide +kernel
theorem dL_law_255 : decode cL_law 255 = .ok (.iconst 1, 1) := by decide +kernel
theorem dL_law_256 : decode cL_law 256 = .ok (.iadd, 1) := by decide +kernel
theorem dL_law_257 : decode cL_law 257 = .ok (.iaload, 1) := by decide +kernel
theorem dL_law_258 : decode cL_law 258 = .ok (.aload_n 0, 1) := by decide +kernel
theorem dL_law_259 : decode cL_law 259 = .ok (.iload_n 3, 1) := by decide +kernel
theorem dL_law_260 : decode cL_law 260 = .ok (.iconst 2, 1) := by decide +kernel
theorem dL_law_261 : decode cL_law 261 = .ok (.iadd, 1) := by decide +kernel
theorem dL_law_262 : decode cL_law 262 = .ok (.iaload, 1) := by decide +kernel
theorem dL_law_263 : decode cL_law 263 = .ok (.ifCond .eq 7, 3) := by decide +kernel
theorem dL_law_266 : decode cL_law 266 = .ok (.iconst 1, 1) := by decide +kernel
theorem dL_law_267 : decode cL_law 267 = .ok (.goto 4, 3) := by decide +kernel
theorem dL_law_270 : decode cL_law 270 = .ok (.iconst 0, 1) := by decide +kernel
theorem dL_law_271 : decode cL_law 271 = .ok (.invokevirtual 43, 3) := by decide +kernel
theorem dL_law_274 : decode cL_law 274 = .ok (.if_icmp .eq 408, 3) := by decide +kernel
theorem dL_law_277 : decode cL_law 277 = .ok (.iconst 0, 1) := by decide +kernel
theorem dL_law_278 : decode cL_law 278 = .ok (.ireturn, 1) := by decide +kernel
theorem dL_law_279 : decode cL_law 279 = .ok (.aload_n 1, 1) := by decide +kernel
theorem dL_law_280 : decode cL_law 280 = .ok (.aload_n 0, 1) := by decide +kernel
theorem dL_law_281 : decode cL_law 281 = .ok (.iload_n 3, 1) := by decide +kernel
theorem dL_law_282 : decode cL_law 282 = .ok (.iconst 1, 1) := by decide +kernel
theorem dL_law_283 : decode cL_law 283 = .ok (.iadd, 1) := by decide +kernel
theorem dL_law_284 : decode cL_law 284 = .ok (.iaload, 1) := by decide +kernel
theorem dL_law_285 : decode cL_law 285 = .ok (.aload_n 0, 1) := by decide +kernel
theorem dL_law_286 : decode cL_law 286 = .ok (.iload_n 3, 1) := by decide +kernel
theorem dL_law_287 : decode cL_law 287 = .ok (.iconst 2, 1) := by decide +kernel
theorem dL_law_288 : decode cL_law 288 = .ok (.iadd, 1) := by decide +kernel
theorem dL_law_289 : decode cL_law 289 = .ok (.iaload, 1) := by decide +kernel
theorem dL_law_290 : decode cL_law 290 = .ok (.aload_n 0, 1) := by decide +kernel
theorem dL_law_291 : decode cL_law 291 = .ok (.iload_n 3, 1) := by decide +kernel
theorem dL_law_292 : decode cL_law 292 = .ok (.iconst 3, 1) := by decide +kernel
theorem dL_law_293 : decode cL_law 293 = .ok (.iadd, 1) := by decide +kernel
theorem dL_law_294 : decode cL_law 294 = .ok (.iaload, 1) := by decide +kernel
theorem dL_law_295 : decode cL_law 295 = .ok (.invokevirtual 44, 3) := by decide +kernel
theorem dL_law_298 : decode cL_law 298 = .ok (.aload_n 2, 1) := by decide +kernel
theorem dL_law_299 : decode cL_law 299 = .ok (.aload_n 0, 1) := by decide +kernel
theorem dL_law_300 : decode cL_law 300 = .ok (.iload_n 3, 1) := by decide +kernel
theorem dL_law_301 : decode cL_law 301 = .ok (.iconst 1, 1) := by decide +kernel
theorem dL_law_302 : decode cL_law 302 = .ok (.iadd, 1) := by decide +kernel
theorem dL_law_303 : decode cL_law 303 = .ok (.iaload, 1) := by decide +kernel
theorem dL_law_304 : decode cL_law 304 = .ok (.aload_n 0, 1) := by decide +kernel
theorem dL_law_305 : decode cL_law 305 = .ok (.iload_n 3, 1) := by decide +kernel
theorem dL_law_306 : decode cL_law 306 = .ok (.iconst 2, 1) := by decide +kernel
theorem dL_law_307 : decode cL_law 307 = .ok (.iadd, 1) := by decide +kernel
theorem dL_law_308 : decode cL_law 308 = .ok (.iaload, 1) := by decide +kernel
theorem dL_law_309 : decode cL_law 309 = .ok (.aload_n 0, 1) := by decide +kernel
theorem dL_law_310 : decode cL_law 310 = .ok (.iload_n 3, 1) := by decide +kernel
theorem dL_law_311 : decode cL_law 311 = .ok (.iconst 3, 1) := by decide +kernel
theorem dL_law_312 : decode cL_law 312 = .ok (.iadd, 1) := by decide +kernel
theorem dL_law_313 : decode cL_law 313 = .ok (.iaload, 1) := by decide +kernel
theorem dL_law_314 : decode cL_law 314 = .ok (.invokevirtual 48, 3) := by decide +kernel
theorem dL_law_317 : decode cL_law 317 = .ok (.if_icmp .eq 365, 3) := by decide +kernel
theorem dL_law_320 : decode cL_law 320 = .ok (.iconst 0, 1) := by decide +kernel
theorem dL_law_321 : decode cL_law 321 = .ok (.ireturn, 1) := by decide +kernel
theorem dL_law_322 : decode cL_law 322 = .ok (.aload_n 1, 1) := by decide +kernel
theorem dL_law_323 : decode cL_law 323 = .ok (.invokevirtual 49, 3) := by decide +kernel
theorem dL_law_326 : decode cL_law 326 = .ok (.aload_n 2, 1) := by decide +kernel
theorem dL_law_327 : decode cL_law 327 = .ok (.invokevirtual 52, 3) := by decide +kernel
theorem dL_law_330 : decode cL_law 330 = .ok (.if_icmp .eq 352, 3) := by decide +kernel
theorem dL_law_333 : decode cL_law 333 = .ok (.iconst 0, 1) := by decide +kernel
theorem dL_law_334 : decode cL_law 334 = .ok (.ireturn, 1) := by decide +kernel
theorem dL_law_335 : decode cL_law 335 = .ok (.aload_n 1, 1) := by decide +kernel
theorem dL_law_336 : decode cL_law 336 = .ok (.aload_n 0, 1) := by decide +kernel
theorem dL_law_337 : decode cL_law 337 = .ok (.iload_n 3, 1) := by decide +kernel
theorem dL_law_338 : decode cL_law 338 = .ok (.iconst 1, 1) := by decide +kernel
theorem dL_law_339 : decode cL_law 339 = .ok (.iadd, 1) := by decide +kernel
theorem dL_law_340 : decode cL_law 340 = .ok (.iaload, 1) := by decide +kernel
theorem dL_law_341 : decode cL_law 341 = .ok (.aload_n 0, 1) := by decide +kernel
theorem dL_law_342 : decode cL_law 342 = .ok (.iload_n 3, 1) := by decide +kernel
theorem dL_law_343 : decode cL_law 343 = .ok (.iconst 2, 1) := by decide +kernel
theorem dL_law_344 : decode cL_law 344 = .ok (.iadd, 1) := by decide +kernel
theorem dL_law_345 : decode cL_law 345 = .ok (.iaload, 1) := by decide +kernel
theorem dL_law_346 : decode cL_law 346 = .ok (.invokevirtual 53, 3) := by decide +kernel
theorem dL_law_349 : decode cL_law 349 = .ok (.aload_n 2, 1) := by decide +kernel
theorem dL_law_350 : decode cL_law 350 = .ok (.aload_n 0, 1) := by decide +kernel
theorem dL_law_351 : decode cL_law 351 = .ok (.iload_n 3, 1) := by decide +kernel
theorem dL_law_352 : decode cL_law 352 = .ok (.iconst 1, 1) := by decide +kernel
theorem dL_law_353 : decode cL_law 353 = .ok (.iadd, 1) := by decide +kernel
theorem dL_law_354 : decode cL_law 354 = .ok (.iaload, 1) := by decide +kernel
theorem dL_law_355 : decode cL_law 355 = .ok (.aload_n 0, 1) := by decide +kernel
theorem dL_law_356 : decode cL_law 356 = .ok (.iload_n 3, 1) := by decide +kernel
theorem dL_law_357 : decode cL_law 357 = .ok (.iconst 2, 1) := by decide +kernel
theorem dL_law_358 : decode cL_law 358 = .ok (.iadd, 1) := by decide +kernel
theorem dL_law_359 : decode cL_law 359 = .ok (.iaload, 1) := by decide +kernel
theorem dL_law_360 : decode cL_law 360 = .ok (.invokevirtual 57, 3) := by decide +kernel
theorem dL_law_363 : decode cL_law 363 = .ok (.if_icmp .eq 319, 3) := by decide +kernel
theorem dL_law_366 : decode cL_law 366 = .ok (.iconst 0, 1) := by decide +kernel
theorem dL_law_367 : decode cL_law 367 = .ok (.ireturn, 1) := by decide +kernel
theorem dL_law_368 : decode cL_law 368 = .ok (.aload_n 1, 1) := by decide +kernel
theorem dL_law_369 : decode cL_law 369 = .ok (.invokevirtual 58, 3) := by decide +kernel
theorem dL_law_372 : decode cL_law 372 = .ok (.aload_n 2, 1) := by decide +kernel
theorem dL_law_373 : decode cL_law 373 = .ok (.invokevirtual 61, 3) := by decide +kernel
theorem dL_law_376 : decode cL_law 376 = .ok (.if_icmp .eq 306, 3) := by decide +kernel
theorem dL_law_379 : decode cL_law 379 = .ok (.iconst 0, 1) := by decide +kernel
theorem dL_law_380 : decode cL_law 380 = .ok (.ireturn, 1) := by decide +kernel
theorem dL_law_381 : decode cL_law 381 = .ok (.aload_n 1, 1) := by decide +kernel
theorem dL_law_382 : decode cL_law 382 = .ok (.aload_n 0, 1) := by decide +kernel
theorem dL_law_383 : decode cL_law 383 = .ok (.iload_n 3, 1) := by decide +kernel
theorem dL_law_384 : decode cL_law 384 = .ok (.iconst 1, 1) := by decide +kernel
theorem dL_law_385 : decode cL_law 385 = .ok (.iadd, 1) := by decide +kernel
theorem dL_law_386 : decode cL_law 386 = .ok (.iaload, 1) := by decide +kernel
theorem dL_law_387 : decode cL_law 387 = .ok (.invokevirtual 62, 3) := by decide +kernel
theorem dL_law_390 : decode cL_law 390 = .ok (.aload_n 2, 1) := by decide +kernel
theorem dL_law_391 : decode cL_law 391 = .ok (.aload_n 0, 1) := by decide +kernel
theorem dL_law_392 : decode cL_law 392 = .ok (.iload_n 3, 1) := by decide +kernel
theorem dL_law_393 : decode cL_law 393 = .ok (.iconst 1, 1) := by decide +kernel
theorem dL_law_394 : decode cL_law 394 = .ok (.iadd, 1) := by decide +kernel
theorem dL_law_395 : decode cL_law 395 = .ok (.iaload, 1) := by decide +kernel
theorem dL_law_396 : decode cL_law 396 = .ok (.invokevirtual 65, 3) := by decide +kernel
theorem dL_law_399 : decode cL_law 399 = .ok (.if_icmp .eq 283, 3) := by decide +kernel
theorem dL_law_402 : decode cL_law 402 = .ok (.iconst 0, 1) := by decide +kernel
theorem dL_law_403 : decode cL_law 403 = .ok (.ireturn, 1) := by decide +kernel
theorem dL_law_404 : decode cL_law 404 = .ok (.aload_n 1, 1) := by decide +kernel
theorem dL_law_405 : decode cL_law 405 = .ok (.aload_n 0, 1) := by decide +kernel
theorem dL_law_406 : decode cL_law 406 = .ok (.iload_n 3, 1) := by decide +kernel
theorem dL_law_407 : decode cL_law 407 = .ok (.iconst 1, 1) := by decide +kernel
theorem dL_law_408 : decode cL_law 408 = .ok (.iadd, 1) := by decide +kernel
theorem dL_law_409 : decode cL_law 409 = .ok (.iaload, 1) := by decide +kernel
theorem dL_law_410 : decode cL_law 410 = .ok (.aload_n 0, 1) := by decide +kernel
theorem dL_law_411 : decode cL_law 411 = .ok (.iload_n 3, 1) := by decide +kernel
theorem dL_law_412 : decode cL_law 412 = .ok (.iconst 2, 1) := by decide +kernel
theorem dL_law_413 : decode cL_law 413 = .ok (.iadd, 1) := by decide +kernel
theorem dL_law_414 : decode cL_law 414 = .ok (.iaload, 1) := by decide +kernel
theorem dL_law_415 : decode cL_law 415 = .ok (.invokevirtual 66, 3) := by decide +kernel
theorem dL_law_418 : decode cL_law 418 = .ok (.aload_n 2, 1) := by decide +kernel
theorem dL_law_419 : decode cL_law 419 = .ok (.aload_n 0, 1) := by decide +kernel
theorem dL_law_420 : decode cL_law 420 = .ok (.iload_n 3, 1) := by decide +kernel
theorem dL_law_421 : decode cL_law 421 = .ok (.iconst 1, 1) := by decide +kernel
theorem dL_law_422 : decode cL_law 422 = .ok (.iadd, 1) := by decide +kernel
theorem dL_law_423 : decode cL_law 423 = .ok (.iaload, 1) := by decide +kernel
theorem dL_law_424 : decode cL_law 424 = .ok (.aload_n 0, 1) := by decide +kernel
theorem dL_law_425 : decode cL_law 425 = .ok (.iload_n 3, 1) := by decide +kernel
theorem dL_law_426 : decode cL_law 426 = .ok (.iconst 2, 1) := by decide +kernel
theorem dL_law_427 : decode cL_law 427 = .ok (.iadd, 1) := by decide +kernel
theorem dL_law_428 : decode cL_law 428 = .ok (.iaload, 1) := by decide +kernel
theorem dL_law_429 : decode cL_law 429 = .ok (.invokevirtual 69, 3) := by decide +kernel
theorem dL_law_432 : decode cL_law 432 = .ok (.if_icmp .eq 250, 3) := by decide +kernel
theorem dL_law_435 : decode cL_law 435 = .ok (.iconst 0, 1) := by decide +kernel
theorem dL_law_436 : decode cL_law 436 = .ok (.ireturn, 1) := by decide +kernel
theorem dL_law_437 : decode cL_law 437 = .ok (.aload_n 1, 1) := by decide +kernel
theorem dL_law_438 : decode cL_law 438 = .ok (.aload_n 0, 1) := by decide +kernel
theorem dL_law_439 : decode cL_law 439 = .ok (.iload_n 3, 1) := by decide +kernel
theorem dL_law_440 : decode cL_law 440 = .ok (.iconst 1, 1) := by decide +kernel
theorem dL_law_441 : decode cL_law 441 = .ok (.iadd, 1) := by decide +kernel
theorem dL_law_442 : decode cL_law 442 = .ok (.iaload, 1) := by decide +kernel
theorem dL_law_443 : decode cL_law 443 = .ok (.aload_n 0, 1) := by decide +kernel
theorem dL_law_444 : decode cL_law 444 = .ok (.iload_n 3, 1) := by decide +kernel
theorem dL_law_445 : decode cL_law 445 = .ok (.iconst 2, 1) := by decide +kernel
theorem dL_law_446 : decode cL_law 446 = .ok (.iadd, 1) := by decide +kernel
theorem dL_law_447 : decode cL_law 447 = .ok (.iaload, 1) := by decide +kernel
theorem dL_law_448 : decode cL_law 448 = .ok (.aload_n 0, 1) := by decide +kernel
theorem dL_law_449 : decode cL_law 449 = .ok (.iload_n 3, 1) := by decide +kernel
theorem dL_law_450 : decode cL_law 450 = .ok (.iconst 3, 1) := by decide +kernel
theorem dL_law_451 : decode cL_law 451 = .ok (.iadd, 1) := by decide +kernel
theorem dL_law_452 : decode cL_law 452 = .ok (.iaload, 1) := by decide +kernel
theorem dL_law_453 : decode cL_law 453 = .ok (.invokevirtual 70, 3) := by decide +kernel
theorem dL_law_456 : decode cL_law 456 = .ok (.aload_n 2, 1) := by decide +kernel
theorem dL_law_457 : decode cL_law 457 = .ok (.aload_n 0, 1) := by decide +kernel
theorem dL_law_458 : decode cL_law 458 = .ok (.iload_n 3, 1) := by decide +kernel
theorem dL_law_459 : decode cL_law 459 = .ok (.iconst 1, 1) := by decide +kernel
theorem dL_law_460 : decode cL_law 460 = .ok (.iadd, 1) := by decide +kernel
theorem dL_law_461 : decode cL_law 461 = .ok (.iaload, 1) := by decide +kernel
theorem dL_law_462 : decode cL_law 462 = .ok (.aload_n 0, 1) := by decide +kernel
theorem dL_law_463 : decode cL_law 463 = .ok (.iload_n 3, 1) := by decide +kernel
theorem dL_law_464 : decode cL_law 464 = .ok (.iconst 2, 1) := by decide +kernel
theorem dL_law_465 : decode cL_law 465 = .ok (.iadd, 1) := by decide +kernel
theorem dL_law_466 : decode cL_law 466 = .ok (.iaload, 1) := by decide +kernel
theorem dL_law_467 : decode cL_law 467 = .ok (.aload_n 0, 1) := by decide +kernel
theorem dL_law_468 : decode cL_law 468 = .ok (.iload_n 3, 1) := by decide +kernel
theorem dL_law_469 : decode cL_law 469 = .ok (.iconst 3, 1) := by decide +kernel
theorem dL_law_470 : decode cL_law 470 = .ok (.iadd, 1) := by decide +kernel
theorem dL_law_471 : decode cL_law 471 = .ok (.iaload, 1) := by decide +kernel
theorem dL_law_472 : decode cL_law 472 = .ok (.invokevirtual 73, 3) := by decide +kernel
theorem dL_law_475 : decode cL_law 475 = .ok (.if_icmp .eq 207, 3) := by decide +kernel
theorem dL_law_478 : decode cL_law 478 = .ok (.iconst 0, 1) := by decide +kernel
theorem dL_law_479 : decode cL_law 479 = .ok (.ireturn, 1) := by decide +kernel
theorem dL_law_480 : decode cL_law 480 = .ok (.aload_n 1, 1) := by decide +kernel
theorem dL_law_481 : decode cL_law 481 = .ok (.aload_n 0, 1) := by decide +kernel
theorem dL_law_482 : decode cL_law 482 = .ok (.iload_n 3, 1) := by decide +kernel
theorem dL_law_483 : decode cL_law 483 = .ok (.iconst 1, 1) := by decide +kernel
theorem dL_law_484 : decode cL_law 484 = .ok (.iadd, 1) := by decide +kernel
theorem dL_law_485 : decode cL_law 485 = .ok (.iaload, 1) := by decide +kernel
theorem dL_law_486 : decode cL_law 486 = .ok (.aload_n 0, 1) := by decide +kernel
theorem dL_law_487 : decode cL_law 487 = .ok (.iload_n 3, 1) := by decide +kernel
theorem dL_law_488 : decode cL_law 488 = .ok (.iconst 2, 1) := by decide +kernel
theorem dL_law_489 : decode cL_law 489 = .ok (.iadd, 1) := by decide +kernel
theorem dL_law_490 : decode cL_law 490 = .ok (.iaload, 1) := by decide +kernel
theorem dL_law_491 : decode cL_law 491 = .ok (.aload_n 0, 1) := by decide +kernel
theorem dL_law_492 : decode cL_law 492 = .ok (.iload_n 3, 1) := by decide +kernel
theorem dL_law_493 : decode cL_law 493 = .ok (.iconst 3, 1) := by decide +kernel
theorem dL_law_494 : decode cL_law 494 = .ok (.iadd, 1) := by decide +kernel
theorem dL_law_495 : decode cL_law 495 = .ok (.iaload, 1) := by decide +kernel
theorem dL_law_496 : decode cL_law 496 = .ok (.invokevirtual 74, 3) := by decide +kernel
theorem dL_law_499 : decode cL_law 499 = .ok (.aload_n 2, 1) := by decide +kernel
theorem dL_law_500 : decode cL_law 500 = .ok (.aload_n 0, 1) := by decide +kernel
theorem dL_law_501 : decode cL_law 501 = .ok (.iload_n 3, 1) := by decide +kernel
theorem dL_law_502 : decode cL_law 502 = .ok (.iconst 1, 1) := by decide +kernel
theorem dL_law_503 : decode cL_law 503 = .ok (.iadd, 1) := by decide +kernel
theorem dL_law_504 : decode cL_law 504 = .ok (.iaload, 1) := by decide +kernel
theorem dL_law_505 : decode cL_law 505 = .ok (.aload_n 0, 1) := by decide +kernel
theorem dL_law_506 : decode cL_law 506 = .ok (.iload_n 3, 1) := by decide +kernel
theorem dL_law_507 : decode cL_law 507 = .ok (.iconst 2, 1) := by decide +kernel
theorem dL_law_508 : decode cL_law 508 = .ok (.iadd, 1) := by decide +kernel
theorem dL_law_509 : decode cL_law 509 = .ok (.iaload, 1) := by decide +kernel
theorem dL_law_510 : decode cL_law 510 = .ok (.aload_n 0, 1) := by decide +kernel
theorem dL_law_511 : decode cL_law 511 = .ok (.iload_n 3, 1) := by decide +kernel
theorem dL_law_512 : decode cL_law 512 = .ok (.iconst 3, 1) := by decide +kernel
theorem dL_law_513 : decode cL_law 513 = .ok (.iadd, 1) := by decide +kernel
theorem dL_law_514 : decode cL_law 514 = .ok (.iaload, 1) := by decide +kernel
theorem dL_law_515 : decode cL_law 515 = .ok (.invokevirtual 77, 3) := by decide +kernel
theorem dL_law_518 : decode cL_law 518 = .ok (.if_icmp .eq 164, 3) := by decide +kernel
theorem dL_law_521 : decode cL_law 521 = .ok (.iconst 0, 1) := by decide +kernel
theorem dL_law_522 : decode cL_law 522 = .ok (.ireturn, 1) := by decide +kernel
theorem dL_law_523 : decode cL_law 523 = .ok (.aload_n 1, 1) := by decide +kernel
theorem dL_law_524 : decode cL_law 524 = .ok (.aload_n 0, 1) := by decide +kernel
theorem dL_law_525 : decode cL_law 525 = .ok (.iload_n 3, 1) := by decide +kernel
theorem dL_law_526 : decode cL_law 526 = .ok (.iconst 1, 1) := by decide +kernel
theorem dL_law_527 : decode cL_law 527 = .ok (.iadd, 1) := by decide +kernel
theorem dL_law_528 : decode cL_law 528 = .ok (.iaload, 1) := by decide +kernel
theorem dL_law_529 : decode cL_law 529 = .ok (.aload_n 0, 1) := by decide +kernel
theorem dL_law_530 : decode cL_law 530 = .ok (.iload_n 3, 1) := by decide +kernel
theorem dL_law_531 : decode cL_law 531 = .ok (.iconst 2, 1) := by decide +kernel
theorem dL_law_532 : decode cL_law 532 = .ok (.iadd, 1) := by decide +kernel
theorem dL_law_533 : decode cL_law 533 = .ok (.iaload, 1) := by decide +kernel
theorem dL_law_534 : decode cL_law 534 = .ok (.aload_n 0, 1) := by decide +kernel
theorem dL_law_535 : decode cL_law 535 = .ok (.iload_n 3, 1) := by decide +kernel
theorem dL_law_536 : decode cL_law 536 = .ok (.iconst 3, 1) := by decide +kernel
theorem dL_law_537 : decode cL_law 537 = .ok (.iadd, 1) := by decide +kernel
theorem dL_law_538 : decode cL_law 538 = .ok (.iaload, 1) := by decide +kernel
theorem dL_law_539 : decode cL_law 539 = .ok (.invokevirtual 78, 3) := by decide +kernel
theorem dL_law_542 : decode cL_law 542 = .ok (.aload_n 2, 1) := by decide +kernel
theorem dL_law_543 : decode cL_law 543 = .ok (.aload_n 0, 1) := by decide +kernel
theorem dL_law_544 : decode cL_law 544 = .ok (.iload_n 3, 1) := by decide +kernel
theorem dL_law_545 : decode cL_law 545 = .ok (.iconst 1, 1) := by decide +kernel
theorem dL_law_546 : decode cL_law 546 = .ok (.iadd, 1) := by decide +kernel
theorem dL_law_547 : decode cL_law 547 = .ok (.iaload, 1) := by decide +kernel
theorem dL_law_548 : decode cL_law 548 = .ok (.aload_n 0, 1) := by decide +kernel
theorem dL_law_549 : decode cL_law 549 = .ok (.iload_n 3, 1) := by decide +kernel
theorem dL_law_550 : decode cL_law 550 = .ok (.iconst 2, 1) := by decide +kernel
theorem dL_law_551 : decode cL_law 551 = .ok (.iadd, 1) := by decide +kernel
theorem dL_law_552 : decode cL_law 552 = .ok (.iaload, 1) := by decide +kernel
theorem dL_law_553 : decode cL_law 553 = .ok (.aload_n 0, 1) := by decide +kernel
theorem dL_law_554 : decode cL_law 554 = .ok (.iload_n 3, 1) := by decide +kernel
theorem dL_law_555 : decode cL_law 555 = .ok (.iconst 3, 1) := by decide +kernel
theorem dL_law_556 : decode cL_law 556 = .ok (.iadd, 1) := by decide +kernel
theorem dL_law_557 : decode cL_law 557 = .ok (.iaload, 1) := by decide +kernel
theorem dL_law_558 : decode cL_law 558 = .ok (.invokevirtual 81, 3) := by decide +kernel
theorem dL_law_561 : decode cL_law 561 = .ok (.if_icmp .eq 121, 3) := by decide +kernel
theorem dL_law_564 : decode cL_law 564 = .ok (.iconst 0, 1) := by decide +kernel
theorem dL_law_565 : decode cL_law 565 = .ok (.ireturn, 1) := by decide +kernel
theorem dL_law_566 : decode cL_law 566 = .ok (.aload_n 1, 1) := by decide +kernel
theorem dL_law_567 : decode cL_law 567 = .ok (.aload_n 0, 1) := by decide +kernel
theorem dL_law_568 : decode cL_law 568 = .ok (.iload_n 3, 1) := by decide +kernel
theorem dL_law_569 : decode cL_law 569 = .ok (.iconst 1, 1) := by decide +kernel
theorem dL_law_570 : decode cL_law 570 = .ok (.iadd, 1) := by decide +kernel
theorem dL_law_571 : decode cL_law 571 = .ok (.iaload, 1) := by decide +kernel
theorem dL_law_572 : decode cL_law 572 = .ok (.aload_n 0, 1) := by decide +kernel
theorem dL_law_573 : decode cL_law 573 = .ok (.iload_n 3, 1) := by decide +kernel
theorem dL_law_574 : decode cL_law 574 = .ok (.iconst 2, 1) := by decide +kernel
theorem dL_law_575 : decode cL_law 575 = .ok (.iadd, 1) := by decide +kernel
theorem dL_law_576 : decode cL_law 576 = .ok (.iaload, 1) := by decide +kernel
theorem dL_law_577 : decode cL_law 577 = .ok (.invokevirtual 82, 3) := by decide +kernel
theorem dL_law_580 : decode cL_law 580 = .ok (.aload_n 2, 1) := by decide +kernel
theorem dL_law_581 : decode cL_law 581 = .ok (.aload_n 0, 1) := by decide +kernel
theorem dL_law_582 : decode cL_law 582 = .ok (.iload_n 3, 1) := by decide +kernel
theorem dL_law_583 : decode cL_law 583 = .ok (.iconst 1, 1) := by decide +kernel
theorem dL_law_584 : decode cL_law 584 = .ok (.iadd, 1) := by decide +kernel
theorem dL_law_585 : decode cL_law 585 = .ok (.iaload, 1) := by decide +kernel
theorem dL_law_586 : decode cL_law 586 = .ok (.aload_n 0, 1) := by decide +kernel
theorem dL_law_587 : decode cL_law 587 = .ok (.iload_n 3, 1) := by decide +kernel
theorem dL_law_588 : decode cL_law 588 = .ok (.iconst 2, 1) := by decide +kernel
theorem dL_law_589 : decode cL_law 589 = .ok (.iadd, 1) := by decide +kernel
theorem dL_law_590 : decode cL_law 590 = .ok (.iaload, 1) := by decide +kernel
theorem dL_law_591 : decode cL_law 591 = .ok (.invokevirtual 85, 3) := by decide +kernel
theorem dL_law_594 : decode cL_law 594 = .ok (.if_icmp .eq 88, 3) := by decide +kernel
theorem dL_law_597 : decode cL_law 597 = .ok (.iconst 0, 1) := by decide +kernel
theorem dL_law_598 : decode cL_law 598 = .ok (.ireturn, 1) := by decide +kernel
theorem dL_law_599 : decode cL_law 599 = .ok (.aload_n 1, 1) := by decide +kernel
theorem dL_law_600 : decode cL_law 600 = .ok (.aload_n 0, 1) := by decide +kernel
theorem dL_law_601 : decode cL_law 601 = .ok (.iload_n 3, 1) := by decide +kernel
theorem dL_law_602 : decode cL_law 602 = .ok (.iconst 1, 1) := by decide +kernel
theorem dL_law_603 : decode cL_law 603 = .ok (.iadd, 1) := by decide +kernel
theorem dL_law_604 : decode cL_law 604 = .ok (.iaload, 1) := by decide +kernel
theorem dL_law_605 : decode cL_law 605 = .ok (.aload_n 0, 1) := by decide +kernel
theorem dL_law_606 : decode cL_law 606 = .ok (.iload_n 3, 1) := by decide +kernel
theorem dL_law_607 : decode cL_law 607 = .ok (.iconst 2, 1) := by decide +kernel
theorem dL_law_608 : decode cL_law 608 = .ok (.iadd, 1) := by decide +kernel
theorem dL_law_609 : decode cL_law 609 = .ok (.iaload, 1) := by decide +kernel
theorem dL_law_610 : decode cL_law 610 = .ok (.invokevirtual 86, 3) := by decide +kernel
theorem dL_law_613 : decode cL_law 613 = .ok (.aload_n 2, 1) := by decide +kernel
theorem dL_law_614 : decode cL_law 614 = .ok (.aload_n 0, 1) := by decide +kernel
theorem dL_law_615 : decode cL_law 615 = .ok (.iload_n 3, 1) := by decide +kernel
theorem dL_law_616 : decode cL_law 616 = .ok (.iconst 1, 1) := by decide +kernel
theorem dL_law_617 : decode cL_law 617 = .ok (.iadd, 1) := by decide +kernel
theorem dL_law_618 : decode cL_law 618 = .ok (.iaload, 1) := by decide +kernel
theorem dL_law_619 : decode cL_law 619 = .ok (.aload_n 0, 1) := by decide +kernel
theorem dL_law_620 : decode cL_law 620 = .ok (.iload_n 3, 1) := by decide +kernel
theorem dL_law_621 : decode cL_law 621 = .ok (.iconst 2, 1) := by decide +kernel
theorem dL_law_622 : decode cL_law 622 = .ok (.iadd, 1) := by decide +kernel
theorem dL_law_623 : decode cL_law 623 = .ok (.iaload, 1) := by decide +kernel
theorem dL_law_624 : decode cL_law 624 = .ok (.invokevirtual 89, 3) := by decide +kernel
theorem dL_law_627 : decode cL_law 627 = .ok (.if_icmp .eq 55, 3) := by decide +kernel
theorem dL_law_630 : decode cL_law 630 = .ok (.iconst 0, 1) := by decide +kernel
theorem dL_law_631 : decode cL_law 631 = .ok (.ireturn, 1) := by decide +kernel
theorem dL_law_632 : decode cL_law 632 = .ok (.aload_n 1, 1) := by decide +kernel
theorem dL_law_633 : decode cL_law 633 = .ok (.invokevirtual 90, 3) := by decide +kernel
theorem dL_law_636 : decode cL_law 636 = .ok (.aload_n 2, 1) := by decide +kernel
theorem dL_law_637 : decode cL_law 637 = .ok (.invokevirtual 93, 3) := by decide +kernel
theorem dL_law_640 : decode cL_law 640 = .ok (.if_icmp .eq 42, 3) := by decide +kernel
theorem dL_law_643 : decode cL_law 643 = .ok (.iconst 0, 1) := by decide +kernel
theorem dL_law_644 : decode cL_law 644 = .ok (.ireturn, 1) := by decide +kernel
theorem dL_law_645 : decode cL_law 645 = .ok (.aload_n 1, 1) := by decide +kernel
theorem dL_law_646 : decode cL_law 646 = .ok (.aload_n 0, 1) := by decide +kernel
theorem dL_law_647 : decode cL_law 647 = .ok (.iload_n 3, 1) := by decide +kernel
theorem dL_law_648 : decode cL_law 648 = .ok (.iconst 1, 1) := by decide +kernel
theorem dL_law_649 : decode cL_law 649 = .ok (.iadd, 1) := by decide +kernel
theorem dL_law_650 : decode cL_law 650 = .ok (.iaload, 1) := by decide +kernel
theorem dL_law_651 : decode cL_law 651 = .ok (.invokevirtual 94, 3) := by decide +kernel
theorem dL_law_654 : decode cL_law 654 = .ok (.aload_n 2, 1) := by decide +kernel
theorem dL_law_655 : decode cL_law 655 = .ok (.aload_n 0, 1) := by decide +kernel
theorem dL_law_656 : decode cL_law 656 = .ok (.iload_n 3, 1) := by decide +kernel
theorem dL_law_657 : decode cL_law 657 = .ok (.iconst 1, 1) := by decide +kernel
theorem dL_law_658 : decode cL_law 658 = .ok (.iadd, 1) := by decide +kernel
theorem dL_law_659 : decode cL_law 659 = .ok (.iaload, 1) := by decide +kernel
theorem dL_law_660 : decode cL_law 660 = .ok (.invokevirtual 97, 3) := by decide +kernel
theorem dL_law_663 : decode cL_law 663 = .ok (.if_icmp .eq 19, 3) := by decide +kernel
theorem dL_law_666 : decode cL_law 666 = .ok (.iconst 0, 1) := by decide +kernel
theorem dL_law_667 : decode cL_law 667 = .ok (.ireturn, 1) := by decide +kernel
theorem dL_law_668 : decode cL_law 668 = .ok (.aload_n 1, 1) := by decide +kernel
theorem dL_law_669 : decode cL_law 669 = .ok (.invokevirtual 98, 3) := by decide +kernel
theorem dL_law_672 : decode cL_law 672 = .ok (.aload_n 2, 1) := by decide +kernel
theorem dL_law_673 : decode cL_law 673 = .ok (.invokevirtual 102, 3) := by decide +kernel
theorem dL_law_676 : decode cL_law 676 = .ok (.lcmp, 1) := by decide +kernel
theorem dL_law_677 : decode cL_law 677 = .ok (.ifCond .eq 5, 3) := by decide +kernel
theorem dL_law_680 : decode cL_law 680 = .ok (.iconst 0, 1) := by decide +kernel
theorem dL_law_681 : decode cL_law 681 = .ok (.ireturn, 1) := by decide +kernel
theorem dL_law_682 : decode cL_law 682 = .ok (.iinc 3 4, 3) := by decide +kernel
theorem dL_law_685 : decode cL_law 685 = .ok (.goto (-667), 3) := by decide +kernel
theorem dL_law_688 : decode cL_law 688 = .ok (.iconst 1, 1) := by decide +kernel
theorem dL_law_689 : decode cL_law 689 = .ok (.ireturn, 1) := by decide +kernel
end
section
/-- the reference's object at o and its nine rows behind it -/
def sv_M5 (S : sv_S) (r : sv_R) (o : Nat) : Prop := o + 9 < S.1 ∧ (S.2 o).1 = 5 ∧ (r o 0 = some (o + 1) ∧ S.2 (o + 1) = (6, 598)) ∧ (r o 1 = some (o + 2) ∧ S.2 (o + 2) = (6, 3588)) ∧ (r o 3 = some (o + 3) ∧ S.2 (o + 3) = (6, 12)) ∧ (r o 5 = some (o + 4) ∧ S.2 (o + 4) = (6, 24)) ∧ (r o 6 = some (o + 5) ∧ S.2 (o + 5) = (6, 24)) ∧ (r o 8 = some (o + 6) ∧ S.2 (o + 6) = (6, 12)) ∧ (r o 9 = some (o + 7) ∧ S.2 (o + 7) = (6, 80)) ∧ (r o 13 = some (o + 8) ∧ S.2 (o + 8) = (6, 80)) ∧ (r o 15 = some (o + 9) ∧ S.2 (o + 9) = (7, 20))
section SVM5
variable {S : sv_S} {r : sv_R} {o : Nat}
theorem sv_M5.lt (h : sv_M5 S r o) : o < S.1 := by have := h.1; omega
theorem sv_M5.k (h : sv_M5 S r o) : (S.2 o).1 = 5 := h.2.1
theorem sv_M5.l1 (h : sv_M5 S r o) : o + 1 < S.1 := by have := h.1; omega
theorem sv_M5.l2 (h : sv_M5 S r o) : o + 2 < S.1 := by have := h.1; omega
theorem sv_M5.l3 (h : sv_M5 S r o) : o + 3 < S.1 := by have := h.1; omega
theorem sv_M5.l4 (h : sv_M5 S r o) : o + 4 < S.1 := by have := h.1; omega
theorem sv_M5.l5 (h : sv_M5 S r o) : o + 5 < S.1 := by have := h.1; omega
theorem sv_M5.l6 (h : sv_M5 S r o) : o + 6 < S.1 := by have := h.1; omega
theorem sv_M5.l7 (h : sv_M5 S r o) : o + 7 < S.1 := by have := h.1; omega
theorem sv_M5.l8 (h : sv_M5 S r o) : o + 8 < S.1 := by have := h.1; omega
theorem sv_M5.l9 (h : sv_M5 S r o) : o + 9 < S.1 := h.1
theorem sv_M5.r1 (h : sv_M5 S r o) : r o 0 = some (o + 1) := h.2.2.1.1
theorem sv_M5.r2 (h : sv_M5 S r o) : r o 1 = some (o + 2) := h.2.2.2.1.1
theorem sv_M5.r3 (h : sv_M5 S r o) : r o 3 = some (o + 3) := h.2.2.2.2.1.1
theorem sv_M5.r4 (h : sv_M5 S r o) : r o 5 = some (o + 4) := h.2.2.2.2.2.1.1
theorem sv_M5.r5 (h : sv_M5 S r o) : r o 6 = some (o + 5) := h.2.2.2.2.2.2.1.1
theorem sv_M5.r6 (h : sv_M5 S r o) : r o 8 = some (o + 6) := h.2.2.2.2.2.2.2.1.1
theorem sv_M5.r7 (h : sv_M5 S r o) : r o 9 = some (o + 7) := h.2.2.2.2.2.2.2.2.1.1
theorem sv_M5.r8 (h : sv_M5 S r o) : r o 13 = some (o + 8) := h.2.2.2.2.2.2.2.2.2.1.1
theorem sv_M5.r9 (h : sv_M5 S r o) : r o 15 = some (o + 9) := h.2.2.2.2.2.2.2.2.2.2.1
theorem sv_M5.s1 (h : sv_M5 S r o) : S.2 (o + 1) = (6, 598) := h.2.2.1.2
theorem sv_M5.s2 (h : sv_M5 S r o) : S.2 (o + 2) = (6, 3588) := h.2.2.2.1.2
theorem sv_M5.s3 (h : sv_M5 S r o) : S.2 (o + 3) = (6, 12) := h.2.2.2.2.1.2
theorem sv_M5.s4 (h : sv_M5 S r o) : S.2 (o + 4) = (6, 24) := h.2.2.2.2.2.1.2
theorem sv_M5.s5 (h : sv_M5 S r o) : S.2 (o + 5) = (6, 24) := h.2.2.2.2.2.2.1.2
theorem sv_M5.s6 (h : sv_M5 S r o) : S.2 (o + 6) = (6, 12) := h.2.2.2.2.2.2.2.1.2
theorem sv_M5.s7 (h : sv_M5 S r o) : S.2 (o + 7) = (6, 80) := h.2.2.2.2.2.2.2.2.1.2
theorem sv_M5.s8 (h : sv_M5 S r o) : S.2 (o + 8) = (6, 80) := h.2.2.2.2.2.2.2.2.2.1.2
theorem sv_M5.s9 (h : sv_M5 S r o) : S.2 (o + 9) = (7, 20) := h.2.2.2.2.2.2.2.2.2.2.2
end SVM5
/-- the forms of an end: a pure answer; nothing but cells of ints changed, with an int, a long or nothing for an answer -/
def sv_qp (rv : Option sv_V) (S : sv_S) (f : sv_F) (r : sv_R) (g : sv_G) : sv_Q := fun rv' S' f' r' g' => rv' = rv ∧ S' = S ∧ f' = f ∧ r' = r ∧ g' = g
def sv_qv (P : sv_F → Prop) (S : sv_S) (r : sv_R) (g : sv_G) : sv_Q := fun rv' S' f' r' g' => rv' = none ∧ S' = S ∧ r' = r ∧ g' = g ∧ P f'
def sv_qi (P : Int → sv_F → Prop) (S : sv_S) (r : sv_R) (g : sv_G) : sv_Q := fun rv' S' f' r' g' => ∃ a, rv' = some (sv_i a) ∧ S' = S ∧ r' = r ∧ g' = g ∧ P a f'
section SVFORM
variable {X : sv_X} {R : Room} {M : sv_M} {Z : sv_Z} {kc ks : Nat} {pc : Nat} {ls : sv_L} {st : List sv_V} {S : sv_S} {f : sv_F} {r : sv_R} {g : sv_G}
theorem sv_cast {ls' : sv_L} {st' : List sv_V} {pc' kc' ks' : Nat} {f' : sv_F} (h : sv_T X R M Z kc' ks' pc' ls' st' S f' r g) (e1 : kc' = kc) (e2 : ks' = ks) (e3 : pc' = pc) (e4 : ls' = ls) (e5 : st' = st) (e6 : f' = f) : sv_T X R M Z kc ks pc ls st S f r g := by
  subst e1; subst e2; subst e3; subst e4; subst e5; subst e6
  exact h
/-- calls of an object's method, by the answer's form -/
theorem sv_vp0 {M' : sv_M} {idx d i ci n : Nat} {As : List sv_V} {v : sv_V} (hl : sv_cV M.1.cls idx M' n) (hd : decode M.2.1 pc = .ok (.invokevirtual idx, 3)) (hcl : ∃ q, vwCl[ci]? = some q ∧ q.1 = M'.1.cls) (hci : ci < 6) (hn : As.length = n) (hst : 2 * st.length ≤ 8) (hR : d + 1 ≤ R.frames ∧ 8 + (M'.2.2.1 + 11) + 36 * d ≤ R.locals) (hc : kc ≤ R.cells ∧ ks ≤ R.slots) (hi : i < S.1) (hk : (S.2 i).1 = ci)
    (hM : sv_C X d M' 0 0 (sv_r i :: As) S f r g (sv_qp (some v) S f r g)) (kk : sv_T X R M Z kc ks (pc + 3) ls (v :: st) S f r g) : sv_T X R M Z kc ks pc ls (As.reverse ++ sv_r i :: st) S f r g := by
  refine sv_callV hl hM hR hc hi hk hcl hci hn hst hd fun rv S' f' r' g' ⟨h1, h2, h3, h4, h5⟩ => ?_
  subst h1; subst h2; subst h3; subst h4; subst h5
  exact kk
theorem sv_vv0 {M' : sv_M} {idx d i ci n : Nat} {As : List sv_V} {P : sv_F → Prop} (hl : sv_cV M.1.cls idx M' n) (hd : decode M.2.1 pc = .ok (.invokevirtual idx, 3)) (hcl : ∃ q, vwCl[ci]? = some q ∧ q.1 = M'.1.cls) (hci : ci < 6) (hn : As.length = n) (hst : 2 * st.length ≤ 8) (hR : d + 1 ≤ R.frames ∧ 8 + (M'.2.2.1 + 11) + 36 * d ≤ R.locals) (hc : kc ≤ R.cells ∧ ks ≤ R.slots) (hi : i < S.1) (hk : (S.2 i).1 = ci)
    (hM : sv_C X d M' 0 0 (sv_r i :: As) S f r g (sv_qv P S r g)) (kk : ∀ f', P f' → sv_T X R M Z kc ks (pc + 3) ls st S f' r g) : sv_T X R M Z kc ks pc ls (As.reverse ++ sv_r i :: st) S f r g := by
  refine sv_callV hl hM hR hc hi hk hcl hci hn hst hd fun rv S' f' r' g' ⟨h1, h2, h3, h4, h5⟩ => ?_
  subst h1; subst h2; subst h3; subst h4
  exact kk _ h5
theorem sv_vi0 {M' : sv_M} {idx d i ci n : Nat} {As : List sv_V} {P : Int → sv_F → Prop} (hl : sv_cV M.1.cls idx M' n) (hd : decode M.2.1 pc = .ok (.invokevirtual idx, 3)) (hcl : ∃ q, vwCl[ci]? = some q ∧ q.1 = M'.1.cls) (hci : ci < 6) (hn : As.length = n) (hst : 2 * st.length ≤ 8) (hR : d + 1 ≤ R.frames ∧ 8 + (M'.2.2.1 + 11) + 36 * d ≤ R.locals) (hc : kc ≤ R.cells ∧ ks ≤ R.slots) (hi : i < S.1) (hk : (S.2 i).1 = ci)
    (hM : sv_C X d M' 0 0 (sv_r i :: As) S f r g (sv_qi P S r g)) (kk : ∀ a f', P a f' → sv_T X R M Z kc ks (pc + 3) ls (sv_i a :: st) S f' r g) : sv_T X R M Z kc ks pc ls (As.reverse ++ sv_r i :: st) S f r g := by
  refine sv_callV hl hM hR hc hi hk hcl hci hn hst hd fun rv S' f' r' g' ⟨a, h1, h2, h3, h4, h5⟩ => ?_
  subst h1; subst h2; subst h3; subst h4
  exact kk _ _ h5
theorem sv_sp0 {M' : sv_M} {idx d n : Nat} {As : List sv_V} {v : sv_V} (hl : sv_cS M.1.cls idx M' n) (hd : decode M.2.1 pc = .ok (.invokestatic idx, 3)) (hn : As.length = n) (hst : 2 * st.length ≤ 8) (hR : d + 1 ≤ R.frames ∧ 8 + (M'.2.2.1 + 11) + 36 * d ≤ R.locals) (hc : kc ≤ R.cells ∧ ks ≤ R.slots)
    (hM : sv_C X d M' 0 0 As S f r g (sv_qp (some v) S f r g)) (kk : sv_T X R M Z kc ks (pc + 3) ls (v :: st) S f r g) : sv_T X R M Z kc ks pc ls (As.reverse ++ st) S f r g := by
  refine sv_callS hl hM hR hc hn hst hd fun rv S' f' r' g' ⟨h1, h2, h3, h4, h5⟩ => ?_
  subst h1; subst h2; subst h3; subst h4; subst h5
  exact kk
theorem sv_sv0 {M' : sv_M} {idx d n : Nat} {As : List sv_V} {P : sv_F → Prop} (hl : sv_cS M.1.cls idx M' n) (hd : decode M.2.1 pc = .ok (.invokestatic idx, 3)) (hn : As.length = n) (hst : 2 * st.length ≤ 8) (hR : d + 1 ≤ R.frames ∧ 8 + (M'.2.2.1 + 11) + 36 * d ≤ R.locals) (hc : kc ≤ R.cells ∧ ks ≤ R.slots)
    (hM : sv_C X d M' 0 0 As S f r g (sv_qv P S r g)) (kk : ∀ f', P f' → sv_T X R M Z kc ks (pc + 3) ls st S f' r g) : sv_T X R M Z kc ks pc ls (As.reverse ++ st) S f r g := by
  refine sv_callS hl hM hR hc hn hst hd fun rv S' f' r' g' ⟨h1, h2, h3, h4, h5⟩ => ?_
  subst h1; subst h2; subst h3; subst h4
  exact kk _ h5
/-- a truth value on the stack -/
theorem sv_bz {p : Prop} [Decidable p] : (if p then (1 : Int) else 0) = 0 ↔ ¬ p := by
  by_cases h : p <;> simp [h]
theorem sv_b01 (p : Prop) [Decidable p] : (if p then (1 : Int) else 0) = 0 ∨ (if p then (1 : Int) else 0) = 1 := by
  by_cases h : p <;> simp [h]
theorem sv_bin (p : Prop) [Decidable p] : sv_in (if p then (1 : Int) else 0) := by
  by_cases h : p <;> simp [h] <;> omega
theorem sv_bif_eq {p : Prop} [Decidable p] {off : Int} {tgt : Nat} (hd : decode M.2.1 pc = .ok (.ifCond .eq off, 3)) (ht : (pc : Int) + off = (tgt : Int)) (kt : ¬ p → sv_T X R M Z kc ks tgt ls st S f r g) (kf : p → sv_T X R M Z kc ks (pc + 3) ls st S f r g) : sv_T X R M Z kc ks pc ls (sv_i (if p then 1 else 0) :: st) S f r g :=
  sv_if_eq hd ht (sv_bin p) (fun h => kt (sv_bz.mp h)) (fun h => kf (Decidable.of_not_not fun q => h (sv_bz.mpr q)))
theorem sv_bif_ne {p : Prop} [Decidable p] {off : Int} {tgt : Nat} (hd : decode M.2.1 pc = .ok (.ifCond .ne off, 3)) (ht : (pc : Int) + off = (tgt : Int)) (kt : p → sv_T X R M Z kc ks tgt ls st S f r g) (kf : ¬ p → sv_T X R M Z kc ks (pc + 3) ls st S f r g) : sv_T X R M Z kc ks pc ls (sv_i (if p then 1 else 0) :: st) S f r g :=
  sv_if_ne hd ht (sv_bin p) (fun h => kt (Decidable.of_not_not fun q => h (sv_bz.mpr q))) (fun h => kf (sv_bz.mp h))
end SVFORM
/-- fewer known locals are enough -/
def sv_sub : sv_L → sv_L → Prop
  | [], _ => True
  | none :: a, _ :: b => sv_sub a b
  | some v :: a, w :: b => w = some v ∧ sv_sub a b
  | _ :: _, [] => False
theorem sv_sub_get : ∀ (a b : sv_L), sv_sub a b → ∀ (i : Nat) (v : sv_V), a[i]? = some (some v) → b[i]? = some (some v)
  | [], b, _, i, v, h => by simp at h
  | none :: a, [], hs, i, v, h => absurd hs (by simp [sv_sub])
  | some u :: a, [], hs, i, v, h => absurd hs (by simp [sv_sub])
  | none :: a, w :: b, hs, 0, v, h => by simp at h
  | none :: a, w :: b, hs, i + 1, v, h => by
    have := sv_sub_get a b hs i v (by simpa using h)
    simpa using this
  | some u :: a, w :: b, hs, 0, v, h => by
    have e : u = v := by simpa using h
    rw [← e]
    show some w = some (some u)
    rw [hs.1]
  | some u :: a, w :: b, hs, i + 1, v, h => by
    have := sv_sub_get a b hs.2 i v (by simpa using h)
    simpa using this
section SVWK
variable {X : sv_X} {R : Room} {M : sv_M} {Z : sv_Z} {kc ks : Nat} {pc : Nat} {ls : sv_L} {st : List sv_V} {S : sv_S} {f : sv_F} {r : sv_R} {g : sv_G}
theorem sv_wk {ls' : sv_L} {f' : sv_F} (h : sv_T X R M Z kc ks pc ls' st S f' r g) (e4 : sv_sub ls' ls) (e6 : f' = f) : sv_T X R M Z kc ks pc ls st S f r g := by
  subst e6
  intro p l e s m args below meth c H locs la hF hP hS hH
  exact h p l e s m args below meth c H locs la hF hP hS ⟨hH.1, hH.2.1, fun i v hv => hH.2.2 i v (sv_sub_get _ _ e4 i v hv)⟩
end SVWK
end
section
set_option maxRecDepth 100000 in
set_option maxHeartbeats 4000000 in
theorem c_X5_in {X : sv_X} {S : sv_S} {f : sv_F} {r : sv_R} {g : sv_G} (a b c : Int) (ha : sv_in a) (hb : sv_in b) (hc : sv_in c) : sv_C X 0 MX5_in 0 0 [sv_i a, sv_i b, sv_i c] S f r g (sv_qp (some (sv_i (if b ≤ a ∧ a ≤ c then 1 else 0))) S f r g) := by
  refine sv_met (by decide) (by simp [lg_sl, sv_cv, va_rf, Value.category]) ?_
  refine sv_iload_n (i := 0) dX5_in_0 rfl rfl ?_
  refine sv_iload_n (i := 1) dX5_in_1 rfl rfl ?_
  refine sv_icmp_lt (tgt := 14) dX5_in_2 (by decide) (by first | omega | exact hin _ _ | decide | (simp [sv_u, sv_row]; omega) | (simp [sv_u, sv_row]; exact hin _ _) | exact hin1 _ _ | (simp [sv_u, sv_row]; exact hin1 _ _)) (by first | omega | exact hin _ _ | decide | (simp [sv_u, sv_row]; omega) | (simp [sv_u, sv_row]; exact hin _ _) | exact hin1 _ _ | (simp [sv_u, sv_row]; exact hin1 _ _)) (fun h_2 => ?_) (fun h_2 => ?_)
  · refine sv_iconst dX5_in_14 ?_
    refine sv_zreturn dX5_in_15 rfl (by first | exact sv_b01 _ | decide) ?_
    exact ⟨by simp_all <;> omega, rfl, rfl, rfl, rfl⟩
  · refine sv_iload_n (i := 0) dX5_in_5 rfl rfl ?_
    refine sv_iload_n (i := 2) dX5_in_6 rfl rfl ?_
    refine sv_icmp_gt (tgt := 14) dX5_in_7 (by decide) (by first | omega | exact hin _ _ | decide | (simp [sv_u, sv_row]; omega) | (simp [sv_u, sv_row]; exact hin _ _) | exact hin1 _ _ | (simp [sv_u, sv_row]; exact hin1 _ _)) (by first | omega | exact hin _ _ | decide | (simp [sv_u, sv_row]; omega) | (simp [sv_u, sv_row]; exact hin _ _) | exact hin1 _ _ | (simp [sv_u, sv_row]; exact hin1 _ _)) (fun h_7 => ?_) (fun h_7 => ?_)
    · refine sv_iconst dX5_in_14 ?_
      refine sv_zreturn dX5_in_15 rfl (by first | exact sv_b01 _ | decide) ?_
      exact ⟨by simp_all <;> omega, rfl, rfl, rfl, rfl⟩
    · refine sv_iconst dX5_in_10 ?_
      refine sv_goto (tgt := 15) dX5_in_11 (by decide) ?_
      refine sv_zreturn dX5_in_15 rfl (by first | exact sv_b01 _ | decide) ?_
      exact ⟨by simp_all <;> omega, rfl, rfl, rfl, rfl⟩
set_option maxRecDepth 100000 in
set_option maxHeartbeats 4000000 in
theorem c_X5_valuesOf {X : sv_X} {S : sv_S} {f : sv_F} {r : sv_R} {g : sv_G} (a : Int) : sv_C X 0 MX5_valuesOf 0 0 [sv_i a] S f r g (sv_qp (some (sv_i (6 + 2 * a))) S f r g) := by
  refine sv_met (by decide) (by simp [lg_sl, sv_cv, va_rf, Value.category]) ?_
  refine sv_bipush dX5_valuesOf_0 (by decide) ?_
  refine sv_iconst dX5_valuesOf_2 ?_
  refine sv_iload_n (i := 0) dX5_valuesOf_3 rfl rfl ?_
  refine sv_imul dX5_valuesOf_4 ?_
  refine sv_iadd dX5_valuesOf_5 ?_
  refine sv_ireturn dX5_valuesOf_6 rfl ?_
  exact ⟨rfl, rfl, rfl, rfl, rfl⟩
set_option maxRecDepth 100000 in
set_option maxHeartbeats 4000000 in
theorem c_X5_of {X : sv_X} {S : sv_S} {f : sv_F} {r : sv_R} {g : sv_G} {o : Nat} {m : Int → Int} (hsh : sv_M5 S r o) (hm : f (o + 1) = m) (a b : Int) (h : 0 ≤ 29 * a + b ∧ 29 * a + b < 598) : sv_C X 0 MX5_of 0 0 [sv_r o, sv_i a, sv_i b] S f r g (sv_qp (some (sv_i (m (29 * a + b)))) S f r g) := by
  refine sv_met (by decide) (by simp [lg_sl, sv_cv, va_rf, Value.category]) ?_
  subst hm
  refine sv_aload_n (i := 0) dX5_of_0 rfl rfl ?_
  refine sv_getR (kz := 0) flX5_7 dX5_of_1 rfl rfl hsh.lt hsh.k hsh.r1 ?_
  refine sv_bipush dX5_of_4 (by decide) ?_
  refine sv_iload_n (i := 1) dX5_of_6 rfl rfl ?_
  refine sv_imul dX5_of_7 ?_
  refine sv_iload_n (i := 2) dX5_of_8 rfl rfl ?_
  refine sv_iadd dX5_of_9 ?_
  refine sv_iald dX5_of_10 hsh.l1 hsh.s1 (by omega) ?_
  refine sv_ireturn dX5_of_11 rfl ?_
  exact ⟨rfl, rfl, rfl, rfl, rfl⟩
set_option maxRecDepth 100000 in
set_option maxHeartbeats 4000000 in
theorem c_X5_put {X : sv_X} {S : sv_S} {f : sv_F} {r : sv_R} {g : sv_G} {o : Nat} (hsh : sv_M5 S r o) (a b c : Int) (h : 0 ≤ 29 * a + b ∧ 29 * a + b < 598) (hc : sv_in c) : sv_C X 0 MX5_put 0 0 [sv_r o, sv_i a, sv_i b, sv_i c] S f r g (sv_qv (fun f' => f' = sv_u f (o + 1) (29 * a + b) c) S r g) := by
  refine sv_met (by decide) (by simp [lg_sl, sv_cv, va_rf, Value.category]) ?_
  refine sv_aload_n (i := 0) dX5_put_0 rfl rfl ?_
  refine sv_getR (kz := 0) flX5_7 dX5_put_1 rfl rfl hsh.lt hsh.k hsh.r1 ?_
  refine sv_bipush dX5_put_4 (by decide) ?_
  refine sv_iload_n (i := 1) dX5_put_6 rfl rfl ?_
  refine sv_imul dX5_put_7 ?_
  refine sv_iload_n (i := 2) dX5_put_8 rfl rfl ?_
  refine sv_iadd dX5_put_9 ?_
  refine sv_iload_n (i := 3) dX5_put_10 rfl rfl ?_
  refine sv_iast dX5_put_11 hsh.l1 hsh.s1 (by omega) (by first | omega | exact hin _ _ | decide | (simp [sv_u, sv_row]; omega) | (simp [sv_u, sv_row]; exact hin _ _) | exact hin1 _ _ | (simp [sv_u, sv_row]; exact hin1 _ _)) ?_
  refine sv_return dX5_put_12 rfl ?_
  exact ⟨rfl, rfl, rfl, rfl, rfl⟩
set_option maxRecDepth 100000 in
set_option maxHeartbeats 4000000 in
theorem c_X5_isWhole {X : sv_X} {S : sv_S} {f : sv_F} {r : sv_R} {g : sv_G} {o : Nat} {m : Int → Int} (hsh : sv_M5 S r o) (hm : f (o + 1) = m) (a : Int) (h : 0 ≤ a ∧ a < 20) : sv_C X 1 MX5_isWhole 0 0 [sv_r o, sv_i a] S f r g (sv_qp (some (sv_i (if m (29 * a + 3) = -1 then 1 else 0))) S f r g) := by
  refine sv_met (by decide) (by simp [lg_sl, sv_cv, va_rf, Value.category]) ?_
  subst hm
  refine sv_fr fun hin => ?_
  refine sv_aload_n (i := 0) dX5_isWhole_0 rfl rfl ?_
  refine sv_iload_n (i := 1) dX5_isWhole_1 rfl rfl ?_
  refine sv_iconst dX5_isWhole_2 ?_
  refine sv_vp0 (As := [_, _]) clX5_38 dX5_isWhole_3 ⟨_, rfl, rfl⟩ (by decide) rfl (Nat.le_of_ble_eq_true rfl) (by decide) (by decide) hsh.lt hsh.k (c_X5_of hsh (by first | exact hm | rfl | (simp only [sv_u_ne, sv_row_ne, sv_row_eq, ne_eq, Nat.add_left_cancel_iff, Nat.reduceEqDiff, not_false_eq_true, Nat.add_eq_left, reduceCtorEq, OfNat.ofNat_ne_zero, OfNat.one_ne_ofNat, OfNat.ofNat_ne_one, one_ne_zero, Nat.succ_ne_self]; first | exact hm | rfl) | (simp [sv_u_ne, sv_row_ne, sv_row_eq]; done) | (simp [sv_u_ne, sv_row_ne, sv_row_eq]; exact hm)) _ _ (by omega)) ?_
  refine sv_iconst dX5_isWhole_6 ?_
  refine sv_icmp_ne (tgt := 14) dX5_isWhole_7 (by decide) (by first | omega | exact hin _ _ | decide | (simp [sv_u, sv_row]; omega) | (simp [sv_u, sv_row]; exact hin _ _) | exact hin1 _ _ | (simp [sv_u, sv_row]; exact hin1 _ _)) (by first | omega | exact hin _ _ | decide | (simp [sv_u, sv_row]; omega) | (simp [sv_u, sv_row]; exact hin _ _) | exact hin1 _ _ | (simp [sv_u, sv_row]; exact hin1 _ _)) (fun h_7 => ?_) (fun h_7 => ?_)
  · refine sv_iconst dX5_isWhole_14 ?_
    refine sv_zreturn dX5_isWhole_15 rfl (by first | exact sv_b01 _ | decide) ?_
    exact ⟨by simp_all, rfl, rfl, rfl, rfl⟩
  · refine sv_iconst dX5_isWhole_10 ?_
    refine sv_goto (tgt := 15) dX5_isWhole_11 (by decide) ?_
    refine sv_zreturn dX5_isWhole_15 rfl (by first | exact sv_b01 _ | decide) ?_
    exact ⟨by simp_all, rfl, rfl, rfl, rfl⟩
end
section
/-! what is meant, over a row m of 598 ints as the reference lays it: 29 ints a kept state, then the game -/
def sv_row (f : sv_F) (i : Nat) (v : Int → Int) : sv_F := fun x y => if x = i then v y else f x y
theorem sv_row_eq {f : sv_F} {i : Nat} {v : Int → Int} : sv_row f i v i = v := by
  funext y
  simp [sv_row]
theorem sv_row_ne {f : sv_F} {i x : Nat} {v : Int → Int} (h : x ≠ i) : sv_row f i v x = f x := by
  funext y
  simp [sv_row, h]
def sp_sl (nu : Int → Int) (n : Int) : Nat → Int
  | 0 => -1
  | k + 1 => if sp_sl nu n k ≠ -1 then sp_sl nu n k else if nu k = n then k else -1
theorem sp_sl_spec (nu : Int → Int) (n : Int) : ∀ k : Nat, (sp_sl nu n k = -1 ∧ ∀ j : Int, 0 ≤ j → j < k → nu j ≠ n) ∨ (0 ≤ sp_sl nu n k ∧ sp_sl nu n k < k ∧ nu (sp_sl nu n k) = n ∧ ∀ j : Int, 0 ≤ j → j < sp_sl nu n k → nu j ≠ n) := by
  intro k
  induction k with
  | zero => exact Or.inl ⟨rfl, fun j h1 h2 => by omega⟩
  | succ k ih =>
    unfold sp_sl
    rcases ih with ⟨h1, h2⟩ | ⟨h1, h2, h3, h4⟩
    · rw [if_neg (by omega)]
      by_cases h : nu k = n
      · rw [if_pos h]
        exact Or.inr ⟨by omega, by omega, h, fun j a b => h2 j a b⟩
      · rw [if_neg h]
        refine Or.inl ⟨rfl, fun j a b => ?_⟩
        by_cases hj : j = k
        · rw [hj]; exact h
        · exact h2 j a (by omega)
    · rw [if_pos (by omega)]
      exact Or.inr ⟨h1, by omega, h3, h4⟩
theorem sp_sl_none {nu : Int → Int} {n : Int} {k : Nat} (h : ∀ j : Int, 0 ≤ j → j < k → nu j ≠ n) : sp_sl nu n k = -1 := by
  rcases sp_sl_spec nu n k with h1 | ⟨h1, h2, h3, -⟩
  · exact h1.1
  · exact absurd h3 (h _ h1 h2)
theorem sp_sl_eq {nu : Int → Int} {n s : Int} {k : Nat} (h0 : 0 ≤ s) (h1 : s < k) (h2 : nu s = n) (h3 : ∀ j : Int, 0 ≤ j → j < s → nu j ≠ n) : sp_sl nu n k = s := by
  rcases sp_sl_spec nu n k with ⟨-, h⟩ | ⟨a1, a2, a3, a4⟩
  · exact absurd h2 (h s h0 h1)
  · by_cases hlt : sp_sl nu n k < s
    · exact absurd a3 (h3 _ a1 hlt)
    · by_cases hgt : s < sp_sl nu n k
      · exact absurd h2 (a4 s h0 hgt)
      · omega
/-- the place of the number n; -1 -/
def sp_slot (m : Int → Int) (n : Int) : Int := sp_sl (fun j => m (29 * j)) n (m 580).toNat
theorem sp_slot_spec (m : Int → Int) (n : Int) : (sp_slot m n = -1 ∧ ∀ j : Int, 0 ≤ j → j < m 580 → m (29 * j) ≠ n) ∨ (0 ≤ sp_slot m n ∧ sp_slot m n < m 580 ∧ m (29 * sp_slot m n) = n ∧ ∀ j : Int, 0 ≤ j → j < sp_slot m n → m (29 * j) ≠ n) := by
  unfold sp_slot
  rcases sp_sl_spec (fun j => m (29 * j)) n (m 580).toNat with ⟨h1, h2⟩ | ⟨h1, h2, h3, h4⟩
  · exact Or.inl ⟨h1, fun j a b => h2 j a (by omega)⟩
  · exact Or.inr ⟨h1, by omega, h3, h4⟩
theorem sp_slot_none {m : Int → Int} {n : Int} (h : ∀ j : Int, 0 ≤ j → j < m 580 → m (29 * j) ≠ n) : sp_slot m n = -1 := sp_sl_none fun j a b => h j a (by omega)
theorem sp_slot_eq {m : Int → Int} {n s : Int} (h0 : 0 ≤ s) (h1 : s < m 580) (h2 : m (29 * s) = n) (h3 : ∀ j : Int, 0 ≤ j → j < s → m (29 * j) ≠ n) : sp_slot m n = s := sp_sl_eq h0 (by omega) h2 h3
/-- a form up -/
def sp_r1 (v : Int → Int) : Int → Int := fun j => if j = 8 then (v 0 + v 1 + v 2) / 3 else if j = 9 then v 7 else v j
def sp_r2 (v : Int → Int) : Int → Int := fun j => if j = 1 then v 4 else if j = 4 then v 1 else if j = 10 then min 99 (2 * v 9) else if j = 11 then 50 else v j
def sp_rz (v : Int → Int) (a b : Int) : Int → Int := if a ≤ 2 ∧ 3 ≤ b then sp_r2 (if a ≤ 1 ∧ 2 ≤ b then sp_r1 v else v) else if a ≤ 1 ∧ 2 ≤ b then sp_r1 v else v
/-- values that count are of 0 to 99 -/
def sp_ok (v : Int → Int) (n : Int) : Prop := ∀ j : Int, 0 ≤ j → j < n → 0 ≤ v j ∧ v j ≤ 99
theorem sp_r1_ok {v : Int → Int} (h : sp_ok v 8) : sp_ok (sp_r1 v) 10 := by
  intro j h0 h1
  have a0 := h 0 (by omega) (by omega)
  have a1 := h 1 (by omega) (by omega)
  have a2 := h 2 (by omega) (by omega)
  have a7 := h 7 (by omega) (by omega)
  unfold sp_r1
  split
  · omega
  · split
    · exact a7
    · exact h j h0 (by omega)
theorem sp_r2_ok {v : Int → Int} (h : sp_ok v 10) : sp_ok (sp_r2 v) 12 := by
  intro j h0 h1
  have a1 := h 1 (by omega) (by omega)
  have a4 := h 4 (by omega) (by omega)
  have a9 := h 9 (by omega) (by omega)
  unfold sp_r2
  split
  · exact a4
  · split
    · exact a1
    · split
      · omega
      · split
        · omega
        · exact h j h0 (by omega)
theorem sp_rz_ok {v : Int → Int} {a b : Int} (ha : 1 ≤ a) (hab : a ≤ b) (hb : b ≤ 3) (h : sp_ok v (6 + 2 * a)) : sp_ok (sp_rz v a b) (6 + 2 * b) := by
  unfold sp_rz
  by_cases h1 : a ≤ 1 ∧ 2 ≤ b
  · have e : a = 1 := by omega
    subst e
    rw [if_pos h1]
    by_cases h2 : (1 : Int) ≤ 2 ∧ 3 ≤ b
    · rw [if_pos h2, show b = 3 by omega]
      exact sp_r2_ok (sp_r1_ok h)
    · rw [if_neg h2, show b = 2 by omega]
      exact sp_r1_ok h
  · rw [if_neg h1]
    by_cases h2 : a ≤ 2 ∧ 3 ≤ b
    · rw [if_pos h2, show b = 3 by omega]
      have e : a = 2 := by omega
      subst e
      exact sp_r2_ok h
    · rw [if_neg h2, show b = a by omega]
      exact h
theorem sp_rz_self {v : Int → Int} {a b : Int} (h : b ≤ a) : sp_rz v a b = v := by
  unfold sp_rz
  rw [if_neg (by omega), if_neg (by omega)]
theorem sp_rz_1 {v : Int → Int} {b : Int} (h : 2 ≤ b) : sp_rz v 1 b = sp_rz (sp_r1 v) 2 b := by
  unfold sp_rz
  simp [h]
theorem sp_rz_2 {v : Int → Int} {b : Int} (h : 3 ≤ b) : sp_rz v 2 b = sp_rz (sp_r2 v) 3 b := by
  unfold sp_rz
  simp [h]
theorem sp_r1_congr {v w : Int → Int} (h : ∀ j, 0 ≤ j → j < 8 → v j = w j) : ∀ j, 0 ≤ j → j < 10 → sp_r1 v j = sp_r1 w j := by
  intro j h0 h1
  have a0 := h 0 (by omega) (by omega)
  have a1 := h 1 (by omega) (by omega)
  have a2 := h 2 (by omega) (by omega)
  have a7 := h 7 (by omega) (by omega)
  unfold sp_r1
  rw [a0, a1, a2, a7]
  split
  · rfl
  · split
    · rfl
    · exact h j h0 (by omega)
theorem sp_r2_congr {v w : Int → Int} (h : ∀ j, 0 ≤ j → j < 10 → v j = w j) : ∀ j, 0 ≤ j → j < 12 → sp_r2 v j = sp_r2 w j := by
  intro j h0 h1
  have a1 := h 1 (by omega) (by omega)
  have a4 := h 4 (by omega) (by omega)
  have a9 := h 9 (by omega) (by omega)
  unfold sp_r2
  rw [a1, a4, a9]
  split
  · rfl
  · split
    · rfl
    · split
      · rfl
      · split
        · rfl
        · exact h j h0 (by omega)
theorem sp_rz_congr {v w : Int → Int} {a b : Int} (ha : 1 ≤ a) (hab : a ≤ b) (hb : b ≤ 3) (h : ∀ j, 0 ≤ j → j < 6 + 2 * a → v j = w j) : ∀ j, 0 ≤ j → j < 6 + 2 * b → sp_rz v a b j = sp_rz w a b j := by
  unfold sp_rz
  by_cases h1 : a ≤ 1 ∧ 2 ≤ b
  · have e : a = 1 := by omega
    subst e
    rw [if_pos h1, if_pos h1]
    by_cases h2 : (1 : Int) ≤ 2 ∧ 3 ≤ b
    · rw [if_pos h2, if_pos h2, show b = 3 by omega]
      exact sp_r2_congr (sp_r1_congr h)
    · rw [if_neg h2, if_neg h2, show b = 2 by omega]
      exact sp_r1_congr h
  · rw [if_neg h1, if_neg h1]
    by_cases h2 : a ≤ 2 ∧ 3 ≤ b
    · rw [if_pos h2, if_pos h2, show b = 3 by omega]
      have e : a = 2 := by omega
      subst e
      exact sp_r2_congr h
    · rw [if_neg h2, if_neg h2, show b = a by omega]
      exact h
/-- the sum of values -/
def sp_sm (v : Int → Int) : Nat → Int
  | 0 => 7
  | k + 1 => (31 * sp_sm v k + v k) % 9973
theorem sp_sm_s {v : Int → Int} {i : Int} (h : 0 ≤ i) : sp_sm v (i + 1).toNat = (31 * sp_sm v i.toNat + v i) % 9973 := by
  rw [show (i + 1).toNat = i.toNat + 1 by omega]
  show (31 * sp_sm v i.toNat + v (i.toNat : Int)) % 9973 = _
  rw [show ((i.toNat : Nat) : Int) = i by omega]
theorem sp_sm_in (v : Int → Int) : ∀ k, 0 ≤ sp_sm v k ∧ sp_sm v k < 9973 := by
  intro k
  cases k with
  | zero => exact ⟨by simp [sp_sm], by simp [sp_sm]⟩
  | succ k =>
    show 0 ≤ (31 * sp_sm v k + v k) % 9973 ∧ _
    refine ⟨Int.emod_nonneg _ (by omega), Int.emod_lt_of_pos _ (by omega)⟩
theorem sp_sm_congr {v w : Int → Int} {n : Int} (h : ∀ j, 0 ≤ j → j < n → v j = w j) : sp_sm v n.toNat = sp_sm w n.toNat := by
  have : ∀ k : Nat, (k : Int) ≤ n → sp_sm v k = sp_sm w k := by
    intro k
    induction k with
    | zero => intro _; rfl
    | succ k ih =>
      intro hk
      show (31 * sp_sm v k + v k) % 9973 = (31 * sp_sm w k + w k) % 9973
      rw [ih (by omega), h k (by omega) (by omega)]
  by_cases hn : 0 ≤ n
  · exact this _ (by omega)
  · rw [show n.toNat = 0 by omega]
    rfl
end
section
set_option maxRecDepth 100000 in
set_option maxHeartbeats 4000000 in
theorem c_X5_slotOf {X : sv_X} {S : sv_S} {f : sv_F} {r : sv_R} {g : sv_G} {o : Nat} {m : Int → Int} (hsh : sv_M5 S r o) (hm : f (o + 1) = m) (n : Int) (hn : sv_in n) (hc : 0 ≤ m 580 ∧ m 580 ≤ 20) : sv_C X 1 MX5_slotOf 0 0 [sv_r o, sv_i n] S f r g (sv_qp (some (sv_i (sp_slot m n))) S f r g) := by
  refine sv_met (by decide) (by simp [lg_sl, sv_cv, va_rf, Value.category]) ?_
  refine sv_fr fun hin => ?_
  subst hm
  have lp : ∀ (k : Nat) (s : Int), f (o + 1) 580 - s < (k : Int) → (0 ≤ s ∧ s ≤ f (o + 1) 580) → (∀ j : Int, 0 ≤ j → j < s → f (o + 1) (29 * j) ≠ n) → sv_T X (sv_rm 1 0 0) MX5_slotOf (sv_Zm X 0 0 (sv_qp (some (sv_i (sp_slot (f (o + 1)) n))) S f r g)) 0 0 2 [some (sv_r o), some (sv_i n), some (sv_i s)] [] S (f) r g := by
    intro k
    induction k with
    | zero =>
      intro s hk h1 h2
      exact absurd hk (by omega)
    | succ k ih =>
      intro s hk h1 h2
      refine sv_iload_n (i := 2) dX5_slotOf_2 rfl rfl ?_
      refine sv_aload_n (i := 0) dX5_slotOf_3 rfl rfl ?_
      refine sv_getR (kz := 0) flX5_7 dX5_slotOf_4 rfl rfl hsh.lt hsh.k hsh.r1 ?_
      refine sv_sipush dX5_slotOf_7 (by decide) ?_
      refine sv_iald dX5_slotOf_10 hsh.l1 hsh.s1 (by omega) ?_
      refine sv_icmp_ge (tgt := 32) dX5_slotOf_11 (by decide) (by first | omega | exact hin _ _ | decide | (simp [sv_u, sv_row]; omega) | (simp [sv_u, sv_row]; exact hin _ _) | exact hin1 _ _ | (simp [sv_u, sv_row]; exact hin1 _ _)) (by first | omega | exact hin _ _ | decide | (simp [sv_u, sv_row]; omega) | (simp [sv_u, sv_row]; exact hin _ _) | exact hin1 _ _ | (simp [sv_u, sv_row]; exact hin1 _ _)) (fun h_11 => ?_) (fun h_11 => ?_)
      · refine sv_iconst dX5_slotOf_32 ?_
        refine sv_ireturn dX5_slotOf_33 rfl ?_
        exact ⟨by rw [sp_slot_none (fun j a b => h2 j a (by omega))], rfl, rfl, rfl, rfl⟩
      · refine sv_aload_n (i := 0) dX5_slotOf_14 rfl rfl ?_
        refine sv_iload_n (i := 2) dX5_slotOf_15 rfl rfl ?_
        refine sv_iconst dX5_slotOf_16 ?_
        refine sv_vp0 (As := [_, _]) clX5_38 dX5_slotOf_17 ⟨_, rfl, rfl⟩ (by decide) rfl (Nat.le_of_ble_eq_true rfl) (by decide) (by decide) hsh.lt hsh.k (c_X5_of hsh (by first | exact hm | rfl | (simp only [sv_u_ne, sv_row_ne, sv_row_eq, ne_eq, Nat.add_left_cancel_iff, Nat.reduceEqDiff, not_false_eq_true, Nat.add_eq_left, reduceCtorEq, OfNat.ofNat_ne_zero, OfNat.one_ne_ofNat, OfNat.ofNat_ne_one, one_ne_zero, Nat.succ_ne_self]; first | exact hm | rfl) | (simp [sv_u_ne, sv_row_ne, sv_row_eq]; done) | (simp [sv_u_ne, sv_row_ne, sv_row_eq]; exact hm)) _ _ (by omega)) ?_
        refine sv_iload_n (i := 1) dX5_slotOf_20 rfl rfl ?_
        refine sv_icmp_ne (tgt := 26) dX5_slotOf_21 (by decide) (by first | omega | exact hin _ _ | decide | (simp [sv_u, sv_row]; omega) | (simp [sv_u, sv_row]; exact hin _ _) | exact hin1 _ _ | (simp [sv_u, sv_row]; exact hin1 _ _)) (by first | omega | exact hin _ _ | decide | (simp [sv_u, sv_row]; omega) | (simp [sv_u, sv_row]; exact hin _ _) | exact hin1 _ _ | (simp [sv_u, sv_row]; exact hin1 _ _)) (fun h_21 => ?_) (fun h_21 => ?_)
        · refine sv_iinc dX5_slotOf_26 rfl (by decide) rfl ?_
          refine sv_goto (tgt := 2) dX5_slotOf_29 (by decide) ?_
          exact ih _ (by omega) (by omega) (fun j a b => by
            by_cases hj : j = s
            · subst hj; rw [show (29 : Int) * j = 29 * j + 0 by omega]; assumption
            · exact h2 j a (by omega))
        · refine sv_iload_n (i := 2) dX5_slotOf_24 rfl rfl ?_
          refine sv_ireturn dX5_slotOf_25 rfl ?_
          exact ⟨by rw [sp_slot_eq (s := s) (by omega) (by omega) (by rw [show (29 : Int) * s = 29 * s + 0 by omega]; assumption) h2], rfl, rfl, rfl, rfl⟩
  refine sv_iconst dX5_slotOf_0 ?_
  refine sv_istore_n (i := 2) dX5_slotOf_1 rfl (by decide) rfl ?_
  exact lp (f (o + 1) 580 + 1).toNat 0 (by omega) (by omega) (fun j a b => by omega)
end
section
set_option maxRecDepth 100000 in
set_option maxHeartbeats 4000000 in
theorem c_X5_raises {X : sv_X} {S : sv_S} {f : sv_F} {r : sv_R} {g : sv_G} {o : Nat} (hsh : sv_M5 S r o) (hfm : f o 4 = 1 ∨ f o 4 = 2) (hv : sp_ok (f (o + 3)) (6 + 2 * f o 4)) : sv_C X 0 MX5_raises 0 0 [sv_r o] S f r g (sv_qv (fun f' => f' = sv_u (sv_row f (o + 3) (if f o 4 = 1 then sp_r1 (f (o + 3)) else sp_r2 (f (o + 3)))) o 4 (f o 4 + 1)) S r g) := by
  refine sv_met (by decide) (by simp [lg_sl, sv_cv, va_rf, Value.category]) ?_
  refine sv_fr fun hin => ?_
  have a0 := hv 0 (by omega) (by omega)
  have a1 := hv 1 (by omega) (by omega)
  have a2 := hv 2 (by omega) (by omega)
  have a4 := hv 4 (by omega) (by omega)
  have a7 := hv 7 (by omega) (by omega)
  have a9 : f o 4 = 2 → 0 ≤ f (o + 3) 9 ∧ f (o + 3) 9 ≤ 99 := fun h => hv 9 (by omega) (by omega)
  refine sv_aload_n (i := 0) dX5_raises_0 rfl rfl ?_
  refine sv_getI (kz := 4) flX5_46 dX5_raises_1 rfl rfl hsh.lt hsh.k ?_
  refine sv_iconst dX5_raises_4 ?_
  refine sv_icmp_ne (tgt := 54) dX5_raises_5 (by decide) (by first | omega | exact hin _ _ | decide | (simp [sv_u, sv_row]; omega) | (simp [sv_u, sv_row]; exact hin _ _) | exact hin1 _ _ | (simp [sv_u, sv_row]; exact hin1 _ _)) (by first | omega | exact hin _ _ | decide | (simp [sv_u, sv_row]; omega) | (simp [sv_u, sv_row]; exact hin _ _) | exact hin1 _ _ | (simp [sv_u, sv_row]; exact hin1 _ _)) (fun h_5 => ?_) (fun h_5 => ?_)
  · have a9 := a9 (by omega)
    refine sv_aload_n (i := 0) dX5_raises_54 rfl rfl ?_
    refine sv_getR (kz := 3) flX5_16 dX5_raises_55 rfl rfl hsh.lt hsh.k hsh.r3 ?_
    refine sv_iconst dX5_raises_58 ?_
    refine sv_iald dX5_raises_59 hsh.l3 hsh.s3 (by omega) ?_
    refine sv_istore_n (i := 1) dX5_raises_60 rfl (by decide) rfl ?_
    refine sv_aload_n (i := 0) dX5_raises_61 rfl rfl ?_
    refine sv_getR (kz := 3) flX5_16 dX5_raises_62 rfl rfl hsh.lt hsh.k hsh.r3 ?_
    refine sv_iconst dX5_raises_65 ?_
    refine sv_aload_n (i := 0) dX5_raises_66 rfl rfl ?_
    refine sv_getR (kz := 3) flX5_16 dX5_raises_67 rfl rfl hsh.lt hsh.k hsh.r3 ?_
    refine sv_iconst dX5_raises_70 ?_
    refine sv_iald dX5_raises_71 hsh.l3 hsh.s3 (by omega) ?_
    refine sv_iast dX5_raises_72 hsh.l3 hsh.s3 (by omega) (by first | omega | exact hin _ _ | decide | (simp [sv_u, sv_row]; omega) | (simp [sv_u, sv_row]; exact hin _ _) | exact hin1 _ _ | (simp [sv_u, sv_row]; exact hin1 _ _)) ?_
    refine sv_aload_n (i := 0) dX5_raises_73 rfl rfl ?_
    refine sv_getR (kz := 3) flX5_16 dX5_raises_74 rfl rfl hsh.lt hsh.k hsh.r3 ?_
    refine sv_iconst dX5_raises_77 ?_
    refine sv_iload_n (i := 1) dX5_raises_78 rfl rfl ?_
    refine sv_iast dX5_raises_79 hsh.l3 hsh.s3 (by omega) (by first | omega | exact hin _ _ | decide | (simp [sv_u, sv_row]; omega) | (simp [sv_u, sv_row]; exact hin _ _) | exact hin1 _ _ | (simp [sv_u, sv_row]; exact hin1 _ _)) ?_
    refine sv_aload_n (i := 0) dX5_raises_80 rfl rfl ?_
    refine sv_getR (kz := 3) flX5_16 dX5_raises_81 rfl rfl hsh.lt hsh.k hsh.r3 ?_
    refine sv_bipush dX5_raises_84 (by decide) ?_
    refine sv_iconst dX5_raises_86 ?_
    refine sv_aload_n (i := 0) dX5_raises_87 rfl rfl ?_
    refine sv_getR (kz := 3) flX5_16 dX5_raises_88 rfl rfl hsh.lt hsh.k hsh.r3 ?_
    refine sv_bipush dX5_raises_91 (by decide) ?_
    refine sv_iald dX5_raises_93 hsh.l3 hsh.s3 (by omega) ?_
    refine sv_imul dX5_raises_94 ?_
    refine sv_bipush dX5_raises_95 (by decide) ?_
    refine sv_icmp_le (tgt := 105) dX5_raises_97 (by decide) (by first | omega | exact hin _ _ | decide | (simp [sv_u, sv_row]; omega) | (simp [sv_u, sv_row]; exact hin _ _) | exact hin1 _ _ | (simp [sv_u, sv_row]; exact hin1 _ _)) (by first | omega | exact hin _ _ | decide | (simp [sv_u, sv_row]; omega) | (simp [sv_u, sv_row]; exact hin _ _) | exact hin1 _ _ | (simp [sv_u, sv_row]; exact hin1 _ _)) (fun h_97 => ?_) (fun h_97 => ?_)
    · refine sv_iconst dX5_raises_105 ?_
      refine sv_aload_n (i := 0) dX5_raises_106 rfl rfl ?_
      refine sv_getR (kz := 3) flX5_16 dX5_raises_107 rfl rfl hsh.lt hsh.k hsh.r3 ?_
      refine sv_bipush dX5_raises_110 (by decide) ?_
      refine sv_iald dX5_raises_112 hsh.l3 hsh.s3 (by omega) ?_
      refine sv_imul dX5_raises_113 ?_
      refine sv_iast dX5_raises_114 hsh.l3 hsh.s3 (by omega) (by first | omega | exact hin _ _ | decide | (simp [sv_u, sv_row]; omega) | (simp [sv_u, sv_row]; exact hin _ _) | exact hin1 _ _ | (simp [sv_u, sv_row]; exact hin1 _ _)) ?_
      refine sv_aload_n (i := 0) dX5_raises_115 rfl rfl ?_
      refine sv_getR (kz := 3) flX5_16 dX5_raises_116 rfl rfl hsh.lt hsh.k hsh.r3 ?_
      refine sv_bipush dX5_raises_119 (by decide) ?_
      refine sv_bipush dX5_raises_121 (by decide) ?_
      refine sv_iast dX5_raises_123 hsh.l3 hsh.s3 (by omega) (by first | omega | exact hin _ _ | decide | (simp [sv_u, sv_row]; omega) | (simp [sv_u, sv_row]; exact hin _ _) | exact hin1 _ _ | (simp [sv_u, sv_row]; exact hin1 _ _)) ?_
      refine sv_aload_n (i := 0) dX5_raises_124 rfl rfl ?_
      refine sv_dup dX5_raises_125 rfl ?_
      refine sv_getI (kz := 4) flX5_46 dX5_raises_126 rfl rfl hsh.lt hsh.k ?_
      refine sv_iconst dX5_raises_129 ?_
      refine sv_iadd dX5_raises_130 ?_
      refine sv_putI (kz := 4) flX5_46 dX5_raises_131 (Or.inl rfl) rfl rfl hsh.lt hsh.k (by first | omega | exact hin _ _ | decide | (simp [sv_u, sv_row]; omega) | (simp [sv_u, sv_row]; exact hin _ _) | exact hin1 _ _ | (simp [sv_u, sv_row]; exact hin1 _ _)) ?_
      refine sv_return dX5_raises_134 rfl ?_
      exact ⟨rfl, rfl, rfl, rfl, by funext x y; grind [sv_u, sv_row, sp_r1, sp_r2]⟩
    · refine sv_bipush dX5_raises_100 (by decide) ?_
      refine sv_goto (tgt := 114) dX5_raises_102 (by decide) ?_
      refine sv_iast dX5_raises_114 hsh.l3 hsh.s3 (by omega) (by first | omega | exact hin _ _ | decide | (simp [sv_u, sv_row]; omega) | (simp [sv_u, sv_row]; exact hin _ _) | exact hin1 _ _ | (simp [sv_u, sv_row]; exact hin1 _ _)) ?_
      refine sv_aload_n (i := 0) dX5_raises_115 rfl rfl ?_
      refine sv_getR (kz := 3) flX5_16 dX5_raises_116 rfl rfl hsh.lt hsh.k hsh.r3 ?_
      refine sv_bipush dX5_raises_119 (by decide) ?_
      refine sv_bipush dX5_raises_121 (by decide) ?_
      refine sv_iast dX5_raises_123 hsh.l3 hsh.s3 (by omega) (by first | omega | exact hin _ _ | decide | (simp [sv_u, sv_row]; omega) | (simp [sv_u, sv_row]; exact hin _ _) | exact hin1 _ _ | (simp [sv_u, sv_row]; exact hin1 _ _)) ?_
      refine sv_aload_n (i := 0) dX5_raises_124 rfl rfl ?_
      refine sv_dup dX5_raises_125 rfl ?_
      refine sv_getI (kz := 4) flX5_46 dX5_raises_126 rfl rfl hsh.lt hsh.k ?_
      refine sv_iconst dX5_raises_129 ?_
      refine sv_iadd dX5_raises_130 ?_
      refine sv_putI (kz := 4) flX5_46 dX5_raises_131 (Or.inl rfl) rfl rfl hsh.lt hsh.k (by first | omega | exact hin _ _ | decide | (simp [sv_u, sv_row]; omega) | (simp [sv_u, sv_row]; exact hin _ _) | exact hin1 _ _ | (simp [sv_u, sv_row]; exact hin1 _ _)) ?_
      refine sv_return dX5_raises_134 rfl ?_
      exact ⟨rfl, rfl, rfl, rfl, by funext x y; grind [sv_u, sv_row, sp_r1, sp_r2]⟩
  · refine sv_aload_n (i := 0) dX5_raises_8 rfl rfl ?_
    refine sv_getR (kz := 3) flX5_16 dX5_raises_9 rfl rfl hsh.lt hsh.k hsh.r3 ?_
    refine sv_bipush dX5_raises_12 (by decide) ?_
    refine sv_aload_n (i := 0) dX5_raises_14 rfl rfl ?_
    refine sv_getR (kz := 3) flX5_16 dX5_raises_15 rfl rfl hsh.lt hsh.k hsh.r3 ?_
    refine sv_iconst dX5_raises_18 ?_
    refine sv_iald dX5_raises_19 hsh.l3 hsh.s3 (by omega) ?_
    refine sv_aload_n (i := 0) dX5_raises_20 rfl rfl ?_
    refine sv_getR (kz := 3) flX5_16 dX5_raises_21 rfl rfl hsh.lt hsh.k hsh.r3 ?_
    refine sv_iconst dX5_raises_24 ?_
    refine sv_iald dX5_raises_25 hsh.l3 hsh.s3 (by omega) ?_
    refine sv_iadd dX5_raises_26 ?_
    refine sv_aload_n (i := 0) dX5_raises_27 rfl rfl ?_
    refine sv_getR (kz := 3) flX5_16 dX5_raises_28 rfl rfl hsh.lt hsh.k hsh.r3 ?_
    refine sv_iconst dX5_raises_31 ?_
    refine sv_iald dX5_raises_32 hsh.l3 hsh.s3 (by omega) ?_
    refine sv_iadd dX5_raises_33 ?_
    refine sv_iconst dX5_raises_34 ?_
    refine sv_idiv dX5_raises_35 (by omega) (by decide) ?_
    refine sv_iast dX5_raises_36 hsh.l3 hsh.s3 (by omega) (by first | omega | exact hin _ _ | decide | (simp [sv_u, sv_row]; omega) | (simp [sv_u, sv_row]; exact hin _ _) | exact hin1 _ _ | (simp [sv_u, sv_row]; exact hin1 _ _)) ?_
    refine sv_aload_n (i := 0) dX5_raises_37 rfl rfl ?_
    refine sv_getR (kz := 3) flX5_16 dX5_raises_38 rfl rfl hsh.lt hsh.k hsh.r3 ?_
    refine sv_bipush dX5_raises_41 (by decide) ?_
    refine sv_aload_n (i := 0) dX5_raises_43 rfl rfl ?_
    refine sv_getR (kz := 3) flX5_16 dX5_raises_44 rfl rfl hsh.lt hsh.k hsh.r3 ?_
    refine sv_bipush dX5_raises_47 (by decide) ?_
    refine sv_iald dX5_raises_49 hsh.l3 hsh.s3 (by omega) ?_
    refine sv_iast dX5_raises_50 hsh.l3 hsh.s3 (by omega) (by first | omega | exact hin _ _ | decide | (simp [sv_u, sv_row]; omega) | (simp [sv_u, sv_row]; exact hin _ _) | exact hin1 _ _ | (simp [sv_u, sv_row]; exact hin1 _ _)) ?_
    refine sv_goto (tgt := 124) dX5_raises_51 (by decide) ?_
    refine sv_aload_n (i := 0) dX5_raises_124 rfl rfl ?_
    refine sv_dup dX5_raises_125 rfl ?_
    refine sv_getI (kz := 4) flX5_46 dX5_raises_126 rfl rfl hsh.lt hsh.k ?_
    refine sv_iconst dX5_raises_129 ?_
    refine sv_iadd dX5_raises_130 ?_
    refine sv_putI (kz := 4) flX5_46 dX5_raises_131 (Or.inl rfl) rfl rfl hsh.lt hsh.k (by first | omega | exact hin _ _ | decide | (simp [sv_u, sv_row]; omega) | (simp [sv_u, sv_row]; exact hin _ _) | exact hin1 _ _ | (simp [sv_u, sv_row]; exact hin1 _ _)) ?_
    refine sv_return dX5_raises_134 rfl ?_
    exact ⟨rfl, rfl, rfl, rfl, by funext x y; grind [sv_u, sv_row, sp_r1, sp_r2]⟩
set_option maxRecDepth 100000 in
set_option maxHeartbeats 4000000 in
theorem c_X5_raisesTo {X : sv_X} {S : sv_S} {f : sv_F} {r : sv_R} {g : sv_G} {o : Nat} (hsh : sv_M5 S r o) (a : Int) (ha : sv_in a) (ha3 : a ≤ 3) (hfm : 1 ≤ f o 4 ∧ f o 4 ≤ 3) (hv : f o 4 < a → sp_ok (f (o + 3)) (6 + 2 * f o 4)) : sv_C X 1 MX5_raisesTo 0 0 [sv_r o, sv_i a] S f r g (sv_qv (fun f' => f' = sv_u (sv_row f (o + 3) (sp_rz (f (o + 3)) (f o 4) a)) o 4 (max (f o 4) a)) S r g) := by
  refine sv_met (by decide) (by simp [lg_sl, sv_cv, va_rf, Value.category]) ?_
  refine sv_fr fun hin => ?_
  have lp : ∀ (k : Nat) (f1 : sv_F), 3 - f1 o 4 < (k : Int) → (1 ≤ f1 o 4 ∧ f1 o 4 ≤ 3) → (f1 o 4 < a → sp_ok (f1 (o + 3)) (6 + 2 * f1 o 4)) → (sv_u (sv_row f1 (o + 3) (sp_rz (f1 (o + 3)) (f1 o 4) a)) o 4 (max (f1 o 4) a) = sv_u (sv_row f (o + 3) (sp_rz (f (o + 3)) (f o 4) a)) o 4 (max (f o 4) a)) → sv_T X (sv_rm 1 0 0) MX5_raisesTo (sv_Zm X 0 0 (sv_qv (fun f' => f' = sv_u (sv_row f (o + 3) (sp_rz (f (o + 3)) (f o 4) a)) o 4 (max (f o 4) a)) S r g)) 0 0 0 [some (sv_r o), some (sv_i a)] [] S (f1) r g := by
    intro k
    induction k with
    | zero =>
      intro f1 hk hfm hv hE
      exact absurd hk (by omega)
    | succ k ih =>
      intro f1 hk hfm hv hE
      refine sv_fr fun hin1 => ?_
      refine sv_aload_n (i := 0) dX5_raisesTo_0 rfl rfl ?_
      refine sv_getI (kz := 4) flX5_46 dX5_raisesTo_1 rfl rfl hsh.lt hsh.k ?_
      refine sv_iload_n (i := 1) dX5_raisesTo_4 rfl rfl ?_
      refine sv_icmp_ge (tgt := 15) dX5_raisesTo_5 (by decide) (by first | omega | exact hin _ _ | decide | (simp [sv_u, sv_row]; omega) | (simp [sv_u, sv_row]; exact hin _ _) | exact hin1 _ _ | (simp [sv_u, sv_row]; exact hin1 _ _)) (by first | omega | exact hin _ _ | decide | (simp [sv_u, sv_row]; omega) | (simp [sv_u, sv_row]; exact hin _ _) | exact hin1 _ _ | (simp [sv_u, sv_row]; exact hin1 _ _)) (fun h_5 => ?_) (fun h_5 => ?_)
      · refine sv_return dX5_raisesTo_15 rfl ?_
        refine ⟨rfl, rfl, rfl, rfl, ?_⟩
        rw [← hE, sp_rz_self (by omega)]
        funext x y
        grind [sv_u, sv_row]
      · have hq : f1 o 4 = 1 ∨ f1 o 4 = 2 := by omega
        have hv := hv (by omega)
        refine sv_aload_n (i := 0) dX5_raisesTo_8 rfl rfl ?_
        refine sv_vv0 (As := []) clX5_49 dX5_raisesTo_9 ⟨_, rfl, rfl⟩ (by decide) rfl (Nat.le_of_ble_eq_true rfl) (by decide) (by decide) hsh.lt hsh.k (c_X5_raises hsh hq hv) (fun f2 hf2 => ?_)
        refine sv_goto (tgt := 0) dX5_raisesTo_12 (by decide) ?_
        subst hf2
        exact ih _ (by simp [sv_u]; omega) (by simp [sv_u]; omega) (fun _ => by
          have e : sv_u (sv_row f1 (o + 3) (if f1 o 4 = 1 then sp_r1 (f1 (o + 3)) else sp_r2 (f1 (o + 3)))) o 4 (f1 o 4 + 1) (o + 3) = (if f1 o 4 = 1 then sp_r1 (f1 (o + 3)) else sp_r2 (f1 (o + 3))) := by
            funext y; simp [sv_u, sv_row]
          rw [e]
          rcases hq with h | h
          · rw [if_pos h]
            have := sp_r1_ok (v := f1 (o + 3)) (by rw [h] at hv; exact hv)
            simp [sv_u, h]
            exact this
          · rw [if_neg (by omega)]
            have := sp_r2_ok (v := f1 (o + 3)) (by rw [h] at hv; exact hv)
            simp [sv_u, h]
            exact this) (by
          rw [← hE]
          rcases hq with h | h
          · have e1 : sp_rz (f1 (o + 3)) 1 a = sp_rz (sp_r1 (f1 (o + 3))) 2 a := sp_rz_1 (by omega)
            funext x y
            have e2 : sv_u (sv_row f1 (o + 3) (if f1 o 4 = 1 then sp_r1 (f1 (o + 3)) else sp_r2 (f1 (o + 3)))) o 4 (f1 o 4 + 1) (o + 3) = sp_r1 (f1 (o + 3)) := by
              funext y; simp [sv_u, sv_row, h]
            rw [e2, h, e1]
            have hm : max (1 : Int) a = a := by omega
            have hm2 : max (2 : Int) a = a := by omega
            by_cases hx : x = o <;> by_cases hx3 : x = o + 3 <;> by_cases hy : y = 4 <;> simp [sv_u, sv_row, hx, hx3, hy, hm, hm2]
          · have e1 : sp_rz (f1 (o + 3)) 2 a = sp_rz (sp_r2 (f1 (o + 3))) 3 a := sp_rz_2 (by omega)
            funext x y
            have e2 : sv_u (sv_row f1 (o + 3) (if f1 o 4 = 1 then sp_r1 (f1 (o + 3)) else sp_r2 (f1 (o + 3)))) o 4 (f1 o 4 + 1) (o + 3) = sp_r2 (f1 (o + 3)) := by
              funext y; simp [sv_u, sv_row, h]
            rw [e2, h, e1]
            have hm : max (2 : Int) a = a := by omega
            have hm2 : max (3 : Int) a = a := by omega
            by_cases hx : x = o <;> by_cases hx3 : x = o + 3 <;> by_cases hy : y = 4 <;> simp [sv_u, sv_row, hx, hx3, hy, hm, hm2])
  exact lp 4 f (by omega) hfm hv rfl

set_option maxRecDepth 100000 in
set_option maxHeartbeats 4000000 in
theorem c_X5_sumNow {X : sv_X} {S : sv_S} {f : sv_F} {r : sv_R} {g : sv_G} {o : Nat} {v : Int → Int} {fm : Int} (hsh : sv_M5 S r o) (hv0 : f (o + 3) = v) (hf0 : f o 4 = fm) (hfm : 1 ≤ fm ∧ fm ≤ 3) (hv : sp_ok v (6 + 2 * fm)) : sv_C X 1 MX5_sumNow 0 0 [sv_r o] S f r g (sv_qp (some (sv_i (sp_sm v (6 + 2 * fm).toNat))) S f r g) := by
  refine sv_met (by decide) (by simp [lg_sl, sv_cv, va_rf, Value.category]) ?_
  refine sv_fr fun hin => ?_
  subst hv0; subst hf0
  have lp : ∀ (k : Nat) (s : Int) (i : Int), 6 + 2 * f o 4 - i < (k : Int) → (0 ≤ i ∧ i ≤ 6 + 2 * f o 4) → (s = sp_sm (f (o + 3)) i.toNat) → sv_T X (sv_rm 1 0 0) MX5_sumNow (sv_Zm X 0 0 (sv_qp (some (sv_i (sp_sm (f (o + 3)) (6 + 2 * f o 4).toNat))) S f r g)) 0 0 5 [some (sv_r o), some (sv_i s), some (sv_i i)] [] S (f) r g := by
    intro k
    induction k with
    | zero =>
      intro s i hk h1 h2
      exact absurd hk (by omega)
    | succ k ih =>
      intro s i hk h1 h2
      refine sv_iload_n (i := 2) dX5_sumNow_5 rfl rfl ?_
      refine sv_aload_n (i := 0) dX5_sumNow_6 rfl rfl ?_
      refine sv_getI (kz := 4) flX5_46 dX5_sumNow_7 rfl rfl hsh.lt hsh.k ?_
      refine sv_sp0 (As := [_]) clX5_52 dX5_sumNow_10 rfl (Nat.le_of_ble_eq_true rfl) (by decide) (by decide) (c_X5_valuesOf _) ?_
      refine sv_icmp_ge (tgt := 38) dX5_sumNow_13 (by decide) (by first | omega | exact hin _ _ | decide | (simp [sv_u, sv_row]; omega) | (simp [sv_u, sv_row]; exact hin _ _) | exact hin1 _ _ | (simp [sv_u, sv_row]; exact hin1 _ _)) (by first | omega | exact hin _ _ | decide | (simp [sv_u, sv_row]; omega) | (simp [sv_u, sv_row]; exact hin _ _) | exact hin1 _ _ | (simp [sv_u, sv_row]; exact hin1 _ _)) (fun h_13 => ?_) (fun h_13 => ?_)
      · refine sv_iload_n (i := 1) dX5_sumNow_38 rfl rfl ?_
        refine sv_ireturn dX5_sumNow_39 rfl ?_
        exact ⟨by rw [h2, show i = 6 + 2 * f o 4 by omega], rfl, rfl, rfl, rfl⟩
      · refine sv_bipush dX5_sumNow_16 (by decide) ?_
        refine sv_iload_n (i := 1) dX5_sumNow_18 rfl rfl ?_
        refine sv_imul dX5_sumNow_19 ?_
        refine sv_aload_n (i := 0) dX5_sumNow_20 rfl rfl ?_
        refine sv_getR (kz := 3) flX5_16 dX5_sumNow_21 rfl rfl hsh.lt hsh.k hsh.r3 ?_
        refine sv_iload_n (i := 2) dX5_sumNow_24 rfl rfl ?_
        refine sv_iald dX5_sumNow_25 hsh.l3 hsh.s3 (by omega) ?_
        refine sv_iadd dX5_sumNow_26 ?_
        have a := hv i (by omega) (by omega)
        have b := sp_sm_in (f (o + 3)) i.toNat
        rw [← h2] at b
        refine sv_sipush dX5_sumNow_27 (by decide) ?_
        refine sv_irem dX5_sumNow_30 (by omega) (by decide) ?_
        refine sv_istore_n (i := 1) dX5_sumNow_31 rfl (by decide) rfl ?_
        refine sv_iinc dX5_sumNow_32 rfl (by decide) rfl ?_
        refine sv_goto (tgt := 5) dX5_sumNow_35 (by decide) ?_
        exact ih _ _ (by omega) (by omega) (by rw [sp_sm_s (by omega), h2])
  refine sv_bipush dX5_sumNow_0 (by decide) ?_
  refine sv_istore_n (i := 1) dX5_sumNow_2 rfl (by decide) rfl ?_
  refine sv_iconst dX5_sumNow_3 ?_
  refine sv_istore_n (i := 2) dX5_sumNow_4 rfl (by decide) rfl ?_
  exact lp (6 + 2 * f o 4 + 1).toNat 7 0 (by omega) (by omega) rfl
set_option maxRecDepth 100000 in
set_option maxHeartbeats 4000000 in
theorem c_X5_takesGame {X : sv_X} {S : sv_S} {f : sv_F} {r : sv_R} {g : sv_G} {o : Nat} (hsh : sv_M5 S r o) : sv_C X 0 MX5_takesGame 0 0 [sv_r o] S f r g (sv_qv (fun f' => f' = sv_u (sv_row f (o + 3) (fun j => if 0 ≤ j ∧ j < 12 then f (o + 1) (583 + j) else f (o + 3) j)) o 4 (f (o + 1) 582)) S r g) := by
  refine sv_met (by decide) (by simp [lg_sl, sv_cv, va_rf, Value.category]) ?_
  refine sv_fr fun hin => ?_
  have lp : ∀ (k : Nat) (i : Int), 12 - i < (k : Int) → (0 ≤ i ∧ i ≤ 12) → sv_T X (sv_rm 0 0 0) MX5_takesGame (sv_Zm X 0 0 (sv_qv (fun f' => f' = sv_u (sv_row f (o + 3) (fun j => if 0 ≤ j ∧ j < 12 then f (o + 1) (583 + j) else f (o + 3) j)) o 4 (f (o + 1) 582)) S r g)) 0 0 14 [some (sv_r o), some (sv_i i)] [] S (sv_u (sv_row f (o + 3) (fun j => if 0 ≤ j ∧ j < i then f (o + 1) (583 + j) else f (o + 3) j)) o 4 (f (o + 1) 582)) r g := by
    intro k
    induction k with
    | zero =>
      intro i hk h1
      exact absurd hk (by omega)
    | succ k ih =>
      intro i hk h1
      refine sv_iload_n (i := 1) dX5_takesGame_14 rfl rfl ?_
      refine sv_bipush dX5_takesGame_15 (by decide) ?_
      refine sv_icmp_ge (tgt := 42) dX5_takesGame_17 (by decide) (by first | omega | exact hin _ _ | decide | (simp [sv_u, sv_row]; omega) | (simp [sv_u, sv_row]; exact hin _ _) | exact hin1 _ _ | (simp [sv_u, sv_row]; exact hin1 _ _)) (by first | omega | exact hin _ _ | decide | (simp [sv_u, sv_row]; omega) | (simp [sv_u, sv_row]; exact hin _ _) | exact hin1 _ _ | (simp [sv_u, sv_row]; exact hin1 _ _)) (fun h_17 => ?_) (fun h_17 => ?_)
      · refine sv_return dX5_takesGame_42 rfl ?_
        exact ⟨rfl, rfl, rfl, rfl, by rw [show i = 12 by omega]⟩
      · refine sv_aload_n (i := 0) dX5_takesGame_20 rfl rfl ?_
        refine sv_getR (kz := 3) flX5_16 dX5_takesGame_21 rfl rfl hsh.lt hsh.k hsh.r3 ?_
        refine sv_iload_n (i := 1) dX5_takesGame_24 rfl rfl ?_
        refine sv_aload_n (i := 0) dX5_takesGame_25 rfl rfl ?_
        refine sv_getR (kz := 0) flX5_7 dX5_takesGame_26 rfl rfl hsh.lt hsh.k hsh.r1 ?_
        refine sv_sipush dX5_takesGame_29 (by decide) ?_
        refine sv_iload_n (i := 1) dX5_takesGame_32 rfl rfl ?_
        refine sv_iadd dX5_takesGame_33 ?_
        refine sv_iald dX5_takesGame_34 hsh.l1 hsh.s1 (by omega) ?_
        refine sv_iast dX5_takesGame_35 hsh.l3 hsh.s3 (by omega) (by simp [sv_u, sv_row]; exact hin _ _) ?_
        refine sv_iinc dX5_takesGame_36 rfl (by decide) rfl ?_
        refine sv_goto (tgt := 14) dX5_takesGame_39 (by decide) ?_
        exact sv_cast (ih (i + 1) (by omega) (by omega)) rfl rfl rfl rfl rfl (by funext x y; grind [sv_u, sv_row])
  refine sv_aload_n (i := 0) dX5_takesGame_0 rfl rfl ?_
  refine sv_aload_n (i := 0) dX5_takesGame_1 rfl rfl ?_
  refine sv_getR (kz := 0) flX5_7 dX5_takesGame_2 rfl rfl hsh.lt hsh.k hsh.r1 ?_
  refine sv_sipush dX5_takesGame_5 (by decide) ?_
  refine sv_iald dX5_takesGame_8 hsh.l1 hsh.s1 (by omega) ?_
  refine sv_putI (kz := 4) flX5_46 dX5_takesGame_9 (Or.inl rfl) rfl rfl hsh.lt hsh.k (by first | omega | exact hin _ _ | decide | (simp [sv_u, sv_row]; omega) | (simp [sv_u, sv_row]; exact hin _ _) | exact hin1 _ _ | (simp [sv_u, sv_row]; exact hin1 _ _)) ?_
  refine sv_iconst dX5_takesGame_12 ?_
  refine sv_istore_n (i := 1) dX5_takesGame_13 rfl (by decide) rfl ?_
  exact sv_cast (lp 13 0 (by omega) (by omega)) rfl rfl rfl rfl rfl (by funext x y; grind [sv_u, sv_row])
set_option maxRecDepth 100000 in
set_option maxHeartbeats 4000000 in
theorem c_X5_givesGame {X : sv_X} {S : sv_S} {f : sv_F} {r : sv_R} {g : sv_G} {o : Nat} (hsh : sv_M5 S r o) (hfm : 1 ≤ f o 4 ∧ f o 4 ≤ 3) : sv_C X 1 MX5_givesGame 0 0 [sv_r o] S f r g (sv_qv (fun f' => f' = sv_row f (o + 1) (fun j => if j = 582 then f o 4 else if 583 ≤ j ∧ j < 595 then (if j - 583 < 6 + 2 * f o 4 then f (o + 3) (j - 583) else 0) else f (o + 1) j)) S r g) := by
  refine sv_met (by decide) (by simp [lg_sl, sv_cv, va_rf, Value.category]) ?_
  refine sv_fr fun hin => ?_
  have lp : ∀ (k : Nat) (i : Int), 12 - i < (k : Int) → (0 ≤ i ∧ i ≤ 12) → sv_T X (sv_rm 1 0 0) MX5_givesGame (sv_Zm X 0 0 (sv_qv (fun f' => f' = sv_row f (o + 1) (fun j => if j = 582 then f o 4 else if 583 ≤ j ∧ j < 595 then (if j - 583 < 6 + 2 * f o 4 then f (o + 3) (j - 583) else 0) else f (o + 1) j)) S r g)) 0 0 14 [some (sv_r o), some (sv_i i)] [] S (sv_row f (o + 1) (fun j => if j = 582 then f o 4 else if 583 ≤ j ∧ j < 583 + i then (if j - 583 < 6 + 2 * f o 4 then f (o + 3) (j - 583) else 0) else f (o + 1) j)) r g := by
    intro k
    induction k with
    | zero =>
      intro i hk h1
      exact absurd hk (by omega)
    | succ k ih =>
      intro i hk h1
      refine sv_iload_n (i := 1) dX5_givesGame_14 rfl rfl ?_
      refine sv_bipush dX5_givesGame_15 (by decide) ?_
      refine sv_icmp_ge (tgt := 57) dX5_givesGame_17 (by decide) (by first | omega | exact hin _ _ | decide | (simp [sv_u, sv_row]; omega) | (simp [sv_u, sv_row]; exact hin _ _) | exact hin1 _ _ | (simp [sv_u, sv_row]; exact hin1 _ _)) (by first | omega | exact hin _ _ | decide | (simp [sv_u, sv_row]; omega) | (simp [sv_u, sv_row]; exact hin _ _) | exact hin1 _ _ | (simp [sv_u, sv_row]; exact hin1 _ _)) (fun h_17 => ?_) (fun h_17 => ?_)
      · refine sv_return dX5_givesGame_57 rfl ?_
        exact ⟨rfl, rfl, rfl, rfl, by rw [show i = 12 by omega]; simp⟩
      · refine sv_aload_n (i := 0) dX5_givesGame_20 rfl rfl ?_
        refine sv_getR (kz := 0) flX5_7 dX5_givesGame_21 rfl rfl hsh.lt hsh.k hsh.r1 ?_
        refine sv_sipush dX5_givesGame_24 (by decide) ?_
        refine sv_iload_n (i := 1) dX5_givesGame_27 rfl rfl ?_
        refine sv_iadd dX5_givesGame_28 ?_
        refine sv_iload_n (i := 1) dX5_givesGame_29 rfl rfl ?_
        refine sv_aload_n (i := 0) dX5_givesGame_30 rfl rfl ?_
        refine sv_getI (kz := 4) flX5_46 dX5_givesGame_31 rfl rfl hsh.lt hsh.k ?_
        refine sv_sp0 (As := [_]) clX5_52 dX5_givesGame_34 rfl (Nat.le_of_ble_eq_true rfl) (by decide) (by decide) (c_X5_valuesOf _) ?_
        refine sv_icmp_ge (tgt := 49) dX5_givesGame_37 (by decide) (by first | omega | exact hin _ _ | decide | (simp [sv_u, sv_row]; omega) | (simp [sv_u, sv_row]; exact hin _ _) | exact hin1 _ _ | (simp [sv_u, sv_row]; exact hin1 _ _)) (by first | omega | exact hin _ _ | decide | (simp [sv_u, sv_row]; omega) | (simp [sv_u, sv_row]; exact hin _ _) | exact hin1 _ _ | (simp [sv_u, sv_row]; exact hin1 _ _)) (fun h_37 => ?_) (fun h_37 => ?_)
        · refine sv_iconst dX5_givesGame_49 ?_
          refine sv_iast dX5_givesGame_50 hsh.l1 hsh.s1 (by omega) (by first | omega | exact hin _ _ | decide | (simp [sv_u, sv_row]; omega) | (simp [sv_u, sv_row]; exact hin _ _) | exact hin1 _ _ | (simp [sv_u, sv_row]; exact hin1 _ _)) ?_
          refine sv_iinc dX5_givesGame_51 rfl (by decide) rfl ?_
          refine sv_goto (tgt := 14) dX5_givesGame_54 (by decide) ?_
          exact sv_cast (ih (i + 1) (by omega) (by omega)) rfl rfl rfl rfl rfl (by funext x y; grind [sv_u, sv_row])
        · refine sv_aload_n (i := 0) dX5_givesGame_40 rfl rfl ?_
          refine sv_getR (kz := 3) flX5_16 dX5_givesGame_41 rfl rfl hsh.lt hsh.k hsh.r3 ?_
          refine sv_iload_n (i := 1) dX5_givesGame_44 rfl rfl ?_
          refine sv_iald dX5_givesGame_45 hsh.l3 hsh.s3 (by omega) ?_
          refine sv_goto (tgt := 50) dX5_givesGame_46 (by decide) ?_
          refine sv_iast dX5_givesGame_50 hsh.l1 hsh.s1 (by omega) (by first | omega | exact hin _ _ | decide | (simp [sv_u, sv_row]; omega) | (simp [sv_u, sv_row]; exact hin _ _) | exact hin1 _ _ | (simp [sv_u, sv_row]; exact hin1 _ _)) ?_
          refine sv_iinc dX5_givesGame_51 rfl (by decide) rfl ?_
          refine sv_goto (tgt := 14) dX5_givesGame_54 (by decide) ?_
          exact sv_cast (ih (i + 1) (by omega) (by omega)) rfl rfl rfl rfl rfl (by funext x y; grind [sv_u, sv_row])
  refine sv_aload_n (i := 0) dX5_givesGame_0 rfl rfl ?_
  refine sv_getR (kz := 0) flX5_7 dX5_givesGame_1 rfl rfl hsh.lt hsh.k hsh.r1 ?_
  refine sv_sipush dX5_givesGame_4 (by decide) ?_
  refine sv_aload_n (i := 0) dX5_givesGame_7 rfl rfl ?_
  refine sv_getI (kz := 4) flX5_46 dX5_givesGame_8 rfl rfl hsh.lt hsh.k ?_
  refine sv_iast dX5_givesGame_11 hsh.l1 hsh.s1 (by omega) (by first | omega | exact hin _ _ | decide | (simp [sv_u, sv_row]; omega) | (simp [sv_u, sv_row]; exact hin _ _) | exact hin1 _ _ | (simp [sv_u, sv_row]; exact hin1 _ _)) ?_
  refine sv_iconst dX5_givesGame_12 ?_
  refine sv_istore_n (i := 1) dX5_givesGame_13 rfl (by decide) rfl ?_
  exact sv_cast (lp 13 0 (by omega) (by omega)) rfl rfl rfl rfl rfl (by funext x y; grind [sv_u, sv_row])
end
section
/-- entries laid over values -/
def sp_en (v pl va : Int → Int) : Nat → Int → Int
  | 0 => v
  | k + 1 => fun j => if j = pl k then va k else sp_en v pl va k j
theorem sp_en_s {v pl va : Int → Int} {i : Int} (h : 0 ≤ i) : sp_en v pl va (i + 1).toNat = fun j => if j = pl i then va i else sp_en v pl va i.toNat j := by
  rw [show (i + 1).toNat = i.toNat + 1 by omega]
  show (fun j => if j = pl (i.toNat : Int) then va (i.toNat : Int) else sp_en v pl va i.toNat j) = _
  rw [show ((i.toNat : Nat) : Int) = i by omega]
theorem sp_en_congr {v w pl va : Int → Int} {n : Int} (h : ∀ j, 0 ≤ j → j < n → v j = w j) : ∀ (k : Nat) (j : Int), 0 ≤ j → j < n → sp_en v pl va k j = sp_en w pl va k j := by
  intro k
  induction k with
  | zero => exact h
  | succ k ih =>
    intro j h0 h1
    show (if j = pl k then va k else sp_en v pl va k j) = (if j = pl k then va k else sp_en w pl va k j)
    rw [ih j h0 h1]
theorem sp_en_ok {v pl va : Int → Int} {n : Int} (h : sp_ok v n) : ∀ (k : Nat), (∀ i : Int, 0 ≤ i → i < k → 0 ≤ va i ∧ va i ≤ 99) → sp_ok (sp_en v pl va k) n := by
  intro k
  induction k with
  | zero => intro _; exact h
  | succ k ih =>
    intro hv j h0 h1
    show 0 ≤ (if j = pl k then va k else sp_en v pl va k j) ∧ (if j = pl k then va k else sp_en v pl va k j) ≤ 99
    split
    · exact hv k (by omega) (by omega)
    · exact ih (fun i a b => hv i a (by omega)) j h0 h1
/-- entries that are all the values -/
theorem sp_en_all {v pl va : Int → Int} : ∀ (k : Nat), (∀ i : Int, 0 ≤ i → i < k → pl i = i) → ∀ j : Int, 0 ≤ j → j < k → sp_en v pl va k j = va j := by
  intro k
  induction k with
  | zero => intro _ j h0 h1; omega
  | succ k ih =>
    intro hp j h0 h1
    show (if j = pl k then va k else sp_en v pl va k j) = va j
    rw [hp k (by omega) (by omega)]
    split
    · next h => rw [h]
    · exact ih (fun i a b => hp i a (by omega)) j h0 (by omega)
/-- the base of a number; -1 -/
def sp_bs (m : Int → Int) (n : Int) : Int := if sp_slot m n = -1 then -1 else m (29 * sp_slot m n + 3)
def sp_ch (m : Int → Int) (n : Int) : Nat → Int
  | 0 => n
  | k + 1 => sp_bs m (sp_ch m n k)
/-- the table of kept states is sound -/
def sp_wt (m : Int → Int) : Prop := (0 ≤ m 580 ∧ m 580 ≤ 20) ∧ (0 ≤ m 581 ∧ m 581 ≤ 99) ∧ (∀ s, 0 ≤ s → s < m 580 → 0 ≤ m (29 * s) ∧ m (29 * s) < m 581 ∧ 1 ≤ m (29 * s + 1) ∧ m (29 * s + 1) ≤ 3 ∧ (m (29 * s + 3) = -1 ∨ (0 ≤ m (29 * s + 3) ∧ m (29 * s + 3) < m (29 * s)))) ∧ (∀ s t, 0 ≤ s → s < t → t < m 580 → m (29 * s) < m (29 * t)) ∧ (∀ s, 0 ≤ s → s < m 580 → m (29 * s + 3) = -1 → m (29 * s + 4) = 6 + 2 * m (29 * s + 1) ∧ ∀ i, 0 ≤ i → i < m (29 * s + 4) → m (29 * s + (5 + i)) = i) ∧ (∀ s, 0 ≤ s → s < m 580 → 0 ≤ m (29 * s + 4) ∧ m (29 * s + 4) ≤ 12 ∧ ∀ i, 0 ≤ i → i < m (29 * s + 4) → 0 ≤ m (29 * s + (5 + i)) ∧ m (29 * s + (5 + i)) < 6 + 2 * m (29 * s + 1) ∧ 0 ≤ m (29 * s + (17 + i)) ∧ m (29 * s + (17 + i)) ≤ 99) ∧ (∀ s t, 0 ≤ s → s < m 580 → 0 ≤ t → t < m 580 → m (29 * s + 3) = m (29 * t) → m (29 * t + 1) ≤ m (29 * s + 1))
section SPWT
variable {m : Int → Int}
theorem sp_wt.c (h : sp_wt m) : 0 ≤ m 580 ∧ m 580 ≤ 20 := h.1
theorem sp_wt.cm (h : sp_wt m) : 0 ≤ m 581 ∧ m 581 ≤ 99 := h.2.1
theorem sp_wt.num (h : sp_wt m) {s : Int} (h0 : 0 ≤ s) (h1 : s < m 580) : 0 ≤ m (29 * s) ∧ m (29 * s) < m 581 := ⟨(h.2.2.1 s h0 h1).1, (h.2.2.1 s h0 h1).2.1⟩
theorem sp_wt.frm (h : sp_wt m) {s : Int} (h0 : 0 ≤ s) (h1 : s < m 580) : 1 ≤ m (29 * s + 1) ∧ m (29 * s + 1) ≤ 3 := ⟨(h.2.2.1 s h0 h1).2.2.1, (h.2.2.1 s h0 h1).2.2.2.1⟩
theorem sp_wt.bas (h : sp_wt m) {s : Int} (h0 : 0 ≤ s) (h1 : s < m 580) : m (29 * s + 3) = -1 ∨ (0 ≤ m (29 * s + 3) ∧ m (29 * s + 3) < m (29 * s)) := (h.2.2.1 s h0 h1).2.2.2.2
theorem sp_wt.asc (h : sp_wt m) {s t : Int} (h0 : 0 ≤ s) (h1 : s < t) (h2 : t < m 580) : m (29 * s) < m (29 * t) := h.2.2.2.1 s t h0 h1 h2
theorem sp_wt.whole (h : sp_wt m) {s : Int} (h0 : 0 ≤ s) (h1 : s < m 580) (hb : m (29 * s + 3) = -1) : m (29 * s + 4) = 6 + 2 * m (29 * s + 1) ∧ ∀ i, 0 ≤ i → i < m (29 * s + 4) → m (29 * s + (5 + i)) = i := h.2.2.2.2.1 s h0 h1 hb
theorem sp_wt.many (h : sp_wt m) {s : Int} (h0 : 0 ≤ s) (h1 : s < m 580) : 0 ≤ m (29 * s + 4) ∧ m (29 * s + 4) ≤ 12 := ⟨(h.2.2.2.2.2.1 s h0 h1).1, (h.2.2.2.2.2.1 s h0 h1).2.1⟩
theorem sp_wt.ent (h : sp_wt m) {s i : Int} (h0 : 0 ≤ s) (h1 : s < m 580) (h2 : 0 ≤ i) (h3 : i < m (29 * s + 4)) : 0 ≤ m (29 * s + (5 + i)) ∧ m (29 * s + (5 + i)) < 6 + 2 * m (29 * s + 1) ∧ 0 ≤ m (29 * s + (17 + i)) ∧ m (29 * s + (17 + i)) ≤ 99 := (h.2.2.2.2.2.1 s h0 h1).2.2 i h2 h3
theorem sp_wt.fms (h : sp_wt m) {s t : Int} (h0 : 0 ≤ s) (h1 : s < m 580) (h2 : 0 ≤ t) (h3 : t < m 580) (he : m (29 * s + 3) = m (29 * t)) : m (29 * t + 1) ≤ m (29 * s + 1) := h.2.2.2.2.2.2 s t h0 h1 h2 h3 he
theorem sp_slot_in {n : Int} (h : sp_slot m n ≠ -1) : 0 ≤ sp_slot m n ∧ sp_slot m n < m 580 ∧ m (29 * sp_slot m n) = n := by
  rcases sp_slot_spec m n with ⟨h1, -⟩ | ⟨h1, h2, h3, -⟩
  · exact absurd h1 h
  · exact ⟨h1, h2, h3⟩
theorem sp_wt.slot (h : sp_wt m) {s : Int} (h0 : 0 ≤ s) (h1 : s < m 580) : sp_slot m (m (29 * s)) = s := sp_slot_eq h0 h1 rfl fun j a b => by
  have := h.asc a b h1
  omega
theorem sp_wt.neg (h : sp_wt m) {n : Int} (hn : n < 0) : sp_slot m n = -1 := sp_slot_none fun j a b => by
  have := (h.num a b).1
  omega
/-- a base lies at a lesser place -/
theorem sp_wt.down (h : sp_wt m) {n : Int} (h1 : sp_slot m n ≠ -1) (h2 : sp_slot m (sp_bs m n) ≠ -1) : sp_slot m (sp_bs m n) < sp_slot m n := by
  obtain ⟨a0, a1, a2⟩ := sp_slot_in h1
  obtain ⟨b0, b1, b2⟩ := sp_slot_in h2
  have e : sp_bs m n = m (29 * sp_slot m n + 3) := by unfold sp_bs; rw [if_neg h1]
  have hb := h.bas a0 a1
  have hn := (h.num b0 b1).1
  by_cases hlt : sp_slot m (sp_bs m n) < sp_slot m n
  · exact hlt
  · exfalso
    by_cases heq : sp_slot m (sp_bs m n) = sp_slot m n
    · have hq : n = sp_bs m n := a2.symm.trans ((congrArg (fun z => m (29 * z)) heq).symm.trans b2)
      rw [← e, ← hq, a2] at hb
      have := (h.num a0 a1).1
      omega
    · have := h.asc a0 (by omega : sp_slot m n < sp_slot m (sp_bs m n)) b1
      omega
theorem sp_wt.bs_lt (h : sp_wt m) {n : Int} (h1 : sp_slot m n ≠ -1) : sp_bs m n = -1 ∨ (0 ≤ sp_bs m n ∧ sp_bs m n < n) := by
  obtain ⟨a0, a1, a2⟩ := sp_slot_in h1
  have hb := h.bas a0 a1
  rw [a2] at hb
  unfold sp_bs
  rw [if_neg h1]
  exact hb
end SPWT
/-- the pl and va of a place -/
def sp_body (m : Int → Int) (rd : Int → Int × (Int → Int)) (n : Int) : Int × (Int → Int) :=
  if sp_slot m n = -1 then (0, fun _ => 0)
  else if m (29 * sp_slot m n + 3) = -1 then
    (if sp_sm (sp_en (fun _ => 0) (fun i => m (29 * sp_slot m n + (5 + i))) (fun i => m (29 * sp_slot m n + (17 + i))) (m (29 * sp_slot m n + 4)).toNat) (6 + 2 * m (29 * sp_slot m n + 1)).toNat = m (29 * sp_slot m n + 2) then -1 else 1, sp_en (fun _ => 0) (fun i => m (29 * sp_slot m n + (5 + i))) (fun i => m (29 * sp_slot m n + (17 + i))) (m (29 * sp_slot m n + 4)).toNat)
  else if (rd (m (29 * sp_slot m n + 3))).1 ≠ -1 then (2, fun _ => 0)
  else
    (if sp_sm (sp_en (sp_rz (rd (m (29 * sp_slot m n + 3))).2 (m (29 * sp_slot m (m (29 * sp_slot m n + 3)) + 1)) (m (29 * sp_slot m n + 1))) (fun i => m (29 * sp_slot m n + (5 + i))) (fun i => m (29 * sp_slot m n + (17 + i))) (m (29 * sp_slot m n + 4)).toNat) (6 + 2 * m (29 * sp_slot m n + 1)).toNat = m (29 * sp_slot m n + 2) then -1 else 1, sp_en (sp_rz (rd (m (29 * sp_slot m n + 3))).2 (m (29 * sp_slot m (m (29 * sp_slot m n + 3)) + 1)) (m (29 * sp_slot m n + 1))) (fun i => m (29 * sp_slot m n + (5 + i))) (fun i => m (29 * sp_slot m n + (17 + i))) (m (29 * sp_slot m n + 4)).toNat)
def sp_rd (m : Int → Int) : Nat → Int → Int × (Int → Int)
  | 0 => fun _ => (0, fun _ => 0)
  | k + 1 => sp_body m (sp_rd m k)
/-- why a number can't be read: -1 it can, 0 lost, 1 its sum, 2 its base; and as what it is read -/
def sp_R (m : Int → Int) (n : Int) : Int := (sp_rd m 100 n).1
def sp_V (m : Int → Int) (n : Int) : Int → Int := (sp_rd m 100 n).2
theorem sp_body_congr {m : Int → Int} {rd rd' : Int → Int × (Int → Int)} {n : Int} (h : sp_slot m n ≠ -1 → m (29 * sp_slot m n + 3) ≠ -1 → rd (m (29 * sp_slot m n + 3)) = rd' (m (29 * sp_slot m n + 3))) : sp_body m rd n = sp_body m rd' n := by
  unfold sp_body
  by_cases h1 : sp_slot m n = -1
  · rw [if_pos h1, if_pos h1]
  · rw [if_neg h1, if_neg h1]
    by_cases h2 : m (29 * sp_slot m n + 3) = -1
    · rw [if_pos h2, if_pos h2]
    · rw [if_neg h2, if_neg h2, h h1 h2]
theorem sp_rd_fuel {m : Int → Int} (hw : sp_wt m) : ∀ (k k' : Nat) (n : Int), n < k → n < k' → 0 ≤ n → sp_rd m k n = sp_rd m k' n := by
  intro k
  induction k with
  | zero => intro k' n h1 h2 h3; omega
  | succ k ih =>
    intro k' n h1 h2 h3
    cases k' with
    | zero => omega
    | succ k' =>
      refine sp_body_congr fun a b => ?_
      have hb := hw.bs_lt a
      unfold sp_bs at hb
      rw [if_neg a] at hb
      exact ih k' _ (by omega) (by omega) (by omega)
theorem sp_rd_eq {m : Int → Int} (hw : sp_wt m) (n : Int) : sp_rd m 100 n = sp_body m (sp_rd m 100) n := by
  refine sp_body_congr fun a b => ?_
  obtain ⟨a0, a1, a2⟩ := sp_slot_in a
  have hb := hw.bs_lt a
  have hn := hw.num a0 a1
  have hc := hw.cm
  unfold sp_bs at hb
  rw [if_neg a] at hb
  exact sp_rd_fuel hw 99 100 _ (by omega) (by omega) (by omega)
section SPR
variable {m : Int → Int} {n : Int}
theorem sp_R_lost (hw : sp_wt m) (h : sp_slot m n = -1) : sp_R m n = 0 := by
  unfold sp_R
  rw [sp_rd_eq hw]
  unfold sp_body
  rw [if_pos h]
theorem sp_V_whole (hw : sp_wt m) (h : sp_slot m n ≠ -1) (hb : sp_bs m n = -1) : sp_V m n = sp_en (fun _ => 0) (fun i => m (29 * sp_slot m n + (5 + i))) (fun i => m (29 * sp_slot m n + (17 + i))) (m (29 * sp_slot m n + 4)).toNat ∧ sp_R m n = if sp_sm (sp_V m n) (6 + 2 * m (29 * sp_slot m n + 1)).toNat = m (29 * sp_slot m n + 2) then -1 else 1 := by
  unfold sp_bs at hb
  rw [if_neg h] at hb
  unfold sp_V sp_R
  rw [sp_rd_eq hw]
  unfold sp_body
  rw [if_neg h, if_pos hb]
  exact ⟨rfl, rfl⟩
theorem sp_R_bad (hw : sp_wt m) (h : sp_slot m n ≠ -1) (hb : sp_bs m n ≠ -1) (hr : sp_R m (sp_bs m n) ≠ -1) : sp_R m n = 2 := by
  unfold sp_bs at hb hr
  rw [if_neg h] at hb hr
  unfold sp_R at hr ⊢
  rw [sp_rd_eq hw]
  unfold sp_body
  rw [if_neg h, if_neg hb, if_pos hr]
theorem sp_V_diff (hw : sp_wt m) (h : sp_slot m n ≠ -1) (hb : sp_bs m n ≠ -1) (hr : sp_R m (sp_bs m n) = -1) : sp_V m n = sp_en (sp_rz (sp_V m (sp_bs m n)) (m (29 * sp_slot m (sp_bs m n) + 1)) (m (29 * sp_slot m n + 1))) (fun i => m (29 * sp_slot m n + (5 + i))) (fun i => m (29 * sp_slot m n + (17 + i))) (m (29 * sp_slot m n + 4)).toNat ∧ sp_R m n = if sp_sm (sp_V m n) (6 + 2 * m (29 * sp_slot m n + 1)).toNat = m (29 * sp_slot m n + 2) then -1 else 1 := by
  have e : sp_bs m n = m (29 * sp_slot m n + 3) := by unfold sp_bs; rw [if_neg h]
  rw [e] at hb hr ⊢
  unfold sp_V sp_R at *
  rw [sp_rd_eq hw (n := n)]
  unfold sp_body
  rw [if_neg h, if_neg hb, if_neg (by omega)]
  exact ⟨rfl, rfl⟩
theorem sp_R_slot (hw : sp_wt m) (h : sp_R m n ≠ 0) : sp_slot m n ≠ -1 := fun q => h (sp_R_lost hw q)
end SPR
theorem sp_V_ok {m : Int → Int} (hw : sp_wt m) : ∀ (k : Nat) (n : Int), n < k → sp_slot m n ≠ -1 → (sp_bs m n ≠ -1 → sp_R m (sp_bs m n) = -1) → sp_ok (sp_V m n) (6 + 2 * m (29 * sp_slot m n + 1)) := by
  intro k
  induction k with
  | zero =>
    intro n hn h
    exact absurd (hw.neg (by omega)) h
  | succ k ih =>
    intro n hn h hr
    obtain ⟨a0, a1, a2⟩ := sp_slot_in h
    have hm := hw.many a0 a1
    by_cases hb : sp_bs m n = -1
    · rw [(sp_V_whole hw h hb).1]
      have hb' : m (29 * sp_slot m n + 3) = -1 := by
        unfold sp_bs at hb
        rw [if_neg h] at hb
        exact hb
      obtain ⟨w1, w2⟩ := hw.whole a0 a1 hb'
      intro j h0 h1
      rw [sp_en_all _ (fun i a b => w2 i a (by omega)) j h0 (by omega)]
      have := hw.ent a0 a1 h0 (i := j) (by omega)
      exact ⟨this.2.2.1, this.2.2.2⟩
    · have hr' := hr hb
      rw [(sp_V_diff hw h hb hr').1]
      have hs := sp_R_slot hw (by omega : sp_R m (sp_bs m n) ≠ 0)
      obtain ⟨b0, b1, b2⟩ := sp_slot_in hs
      have hlt := hw.bs_lt h
      have e : sp_bs m n = m (29 * sp_slot m n + 3) := by unfold sp_bs; rw [if_neg h]
      have hf := hw.fms a0 a1 b0 b1 (by rw [b2, e])
      have f1 := hw.frm a0 a1
      have f2 := hw.frm b0 b1
      refine sp_en_ok (sp_rz_ok f2.1 hf f1.2 (ih _ (by omega) hs fun hb2 => ?_)) _ (fun i a b => ?_)
      · by_cases hq : sp_R m (sp_bs m (sp_bs m n)) = -1
        · exact hq
        · have := sp_R_bad hw hs hb2 hq
          omega
      · have := hw.ent a0 a1 a (i := i) (by omega)
        exact ⟨this.2.2.1, this.2.2.2⟩
theorem sp_V_ok' {m : Int → Int} (hw : sp_wt m) {n : Int} (h : sp_R m n = -1) : sp_ok (sp_V m n) (6 + 2 * m (29 * sp_slot m n + 1)) := by
  have hs := sp_R_slot hw (by omega : sp_R m n ≠ 0)
  refine sp_V_ok hw (n + 1).toNat n ?_ hs fun hb => ?_
  · obtain ⟨a0, a1, a2⟩ := sp_slot_in hs
    have := (hw.num a0 a1).1
    omega
  · by_cases hq : sp_R m (sp_bs m n) = -1
    · exact hq
    · have := sp_R_bad hw hs hb hq
      omega
end
section
/-- in how many of the first k values two differ -/
def sp_dn (v w : Int → Int) : Nat → Int
  | 0 => 0
  | k + 1 => sp_dn v w k + (if v k = w k then 0 else 1)
theorem sp_dn_s {v w : Int → Int} {i : Int} (h : 0 ≤ i) : sp_dn v w (i + 1).toNat = sp_dn v w i.toNat + (if v i = w i then 0 else 1) := by
  rw [show (i + 1).toNat = i.toNat + 1 by omega]
  show sp_dn v w i.toNat + (if v (i.toNat : Int) = w (i.toNat : Int) then 0 else 1) = _
  rw [show ((i.toNat : Nat) : Int) = i by omega]
theorem sp_dn_in (v w : Int → Int) : ∀ k : Nat, 0 ≤ sp_dn v w k ∧ sp_dn v w k ≤ k := by
  intro k
  induction k with
  | zero => exact ⟨by simp [sp_dn], by simp [sp_dn]⟩
  | succ k ih =>
    show 0 ≤ sp_dn v w k + (if v k = w k then 0 else 1) ∧ sp_dn v w k + (if v k = w k then 0 else 1) ≤ ((k + 1 : Nat) : Int)
    split <;> omega
theorem sp_dn_congr {v w v' w' : Int → Int} {n : Int} (hv : ∀ j, 0 ≤ j → j < n → v j = v' j) (hw : ∀ j, 0 ≤ j → j < n → w j = w' j) : sp_dn v w n.toNat = sp_dn v' w' n.toNat := by
  have : ∀ k : Nat, (k : Int) ≤ n → sp_dn v w k = sp_dn v' w' k := by
    intro k
    induction k with
    | zero => intro _; rfl
    | succ k ih =>
      intro hk
      show sp_dn v w k + (if v k = w k then 0 else 1) = sp_dn v' w' k + (if v' k = w' k then 0 else 1)
      rw [ih (by omega), hv k (by omega) (by omega), hw k (by omega) (by omega)]
  by_cases hn : 0 ≤ n
  · exact this _ (by omega)
  · rw [show n.toNat = 0 by omega]
    rfl
theorem sp_dn_comm (v w : Int → Int) : ∀ k : Nat, sp_dn v w k = sp_dn w v k := by
  intro k
  induction k with
  | zero => rfl
  | succ k ih =>
    show sp_dn v w k + (if v k = w k then 0 else 1) = sp_dn w v k + (if w k = v k then 0 else 1)
    rw [ih]
    by_cases h : v k = w k
    · rw [if_pos h, if_pos h.symm]
    · rw [if_neg h, if_neg (Ne.symm h)]
def sp_up (m : Int → Int) (i a : Int) : Int → Int := fun j => if j = i then a else m j
/-- the row s written whole -/
def sp_ww (m : Int → Int) (s n k : Int) (w : Int → Int) : Int → Int := fun j => if j = 29 * s + 3 then -1 else if j = 29 * s + 4 then n else if 29 * s + 5 ≤ j ∧ j < 29 * s + 5 + k then (if j - (29 * s + 5) < n then j - (29 * s + 5) else 0) else if 29 * s + 17 ≤ j ∧ j < 29 * s + 17 + k then (if j - (29 * s + 17) < n then w (j - (29 * s + 17)) else 0) else m j
/-- the entries of the first k values -/
def sp_wd (m : Int → Int) (s : Int) (v w : Int → Int) : Nat → Int → Int
  | 0 => m
  | k + 1 => if v k = w k then sp_wd m s v w k else sp_up (sp_up (sp_wd m s v w k) (29 * s + (5 + sp_dn v w k)) k) (29 * s + (17 + sp_dn v w k)) (w k)
theorem sp_wd_s {m : Int → Int} {s : Int} {v w : Int → Int} {i : Int} (h : 0 ≤ i) : sp_wd m s v w (i + 1).toNat = if v i = w i then sp_wd m s v w i.toNat else sp_up (sp_up (sp_wd m s v w i.toNat) (29 * s + (5 + sp_dn v w i.toNat)) i) (29 * s + (17 + sp_dn v w i.toNat)) (w i) := by
  rw [show (i + 1).toNat = i.toNat + 1 by omega]
  show (if v (i.toNat : Int) = w (i.toNat : Int) then sp_wd m s v w i.toNat else sp_up (sp_up (sp_wd m s v w i.toNat) (29 * s + (5 + sp_dn v w i.toNat)) (i.toNat : Int)) (29 * s + (17 + sp_dn v w i.toNat)) (w (i.toNat : Int))) = _
  rw [show ((i.toNat : Nat) : Int) = i by omega]
theorem sp_wd_out {m : Int → Int} {s : Int} {v w : Int → Int} {j : Int} : ∀ k : Nat, k ≤ 12 → ¬ (29 * s + 5 ≤ j ∧ j < 29 * s + 29) → sp_wd m s v w k j = m j := by
  intro k
  induction k with
  | zero => intro _ _; rfl
  | succ k ih =>
    intro hk hj
    have hd := sp_dn_in v w k
    show (if v k = w k then sp_wd m s v w k else sp_up (sp_up (sp_wd m s v w k) (29 * s + (5 + sp_dn v w k)) k) (29 * s + (17 + sp_dn v w k)) (w k)) j = m j
    split
    · exact ih (by omega) hj
    · unfold sp_up
      rw [if_neg (by omega), if_neg (by omega)]
      exact ih (by omega) hj
theorem sv_u_row {f : sv_F} {i : Nat} {j a : Int} : sv_u f i j a = sv_row f i (sp_up (f i) j a) := by
  funext x y
  grind [sv_u, sv_row, sp_up]
theorem sv_row_row {f : sv_F} {i : Nat} {v w : Int → Int} : sv_row (sv_row f i v) i w = sv_row f i w := by
  funext x y
  grind [sv_row]
theorem sv_row_id {f : sv_F} {i : Nat} : sv_row f i (f i) = f := by
  funext x y
  grind [sv_row]
/-- what a reading leaves behind -/
def sp_rq (o : Nat) (m : Int → Int) (n : Int) (f f' : sv_F) : Prop := (∀ x, x ≠ o → x ≠ o + 3 → x ≠ o + 4 → x ≠ o + 5 → f' x = f x) ∧ (∀ j, j ≠ 4 → j ≠ 7 → f' o j = f o j) ∧ (sp_R m n = -1 → f' o 4 = m (29 * sp_slot m n + 1) ∧ ∀ j, 0 ≤ j → j < 6 + 2 * m (29 * sp_slot m n + 1) → f' (o + 3) j = sp_V m n j) ∧ ∃ L : Nat, 1 ≤ L ∧ L ≤ 21 ∧ (∀ k : Nat, k < L → sp_ch m n k ≠ -1) ∧ sp_ch m n L = -1 ∧ f' o 7 = L ∧ ∀ k : Nat, k < L → f' (o + 4) k = sp_ch m n k ∧ f' (o + 5) k = sp_R m (sp_ch m n k)
end
section
set_option maxRecDepth 100000 in
set_option maxHeartbeats 4000000 in
theorem c_X5_keeps {X : sv_X} {S : sv_S} {f : sv_F} {r : sv_R} {g : sv_G} {o : Nat} (hsh : sv_M5 S r o) (hu : 0 ≤ f o 2 ∧ f o 2 ≤ 6) : sv_C X 0 MX5_keeps 0 0 [sv_r o] S f r g (sv_qv (fun f' => f' = sv_u (sv_row f (o + 2) (fun j => if 598 * (if f o 2 = 6 then 5 else f o 2) ≤ j ∧ j < 598 * (if f o 2 = 6 then 5 else f o 2) + 598 then f (o + 1) (j - 598 * (if f o 2 = 6 then 5 else f o 2)) else if f o 2 = 6 ∧ 0 ≤ j ∧ j < 2990 then f (o + 2) (j + 598) else f (o + 2) j)) o 2 ((if f o 2 = 6 then 5 else f o 2) + 1)) S r g) := by
  refine sv_met (by decide) (by simp [lg_sl, sv_cv, va_rf, Value.category]) ?_
  refine sv_fr fun hin => ?_
  have l2 : ∀ (k : Nat) (i : Int) (f1 : sv_F), 598 - i < (k : Int) → (0 ≤ i ∧ i ≤ 598) → (0 ≤ f1 o 2 ∧ f1 o 2 ≤ 5) → (sv_u (sv_row f1 (o + 2) (fun j => if 598 * f1 o 2 ≤ j ∧ j < 598 * f1 o 2 + 598 then f1 (o + 1) (j - 598 * f1 o 2) else f1 (o + 2) j)) o 2 (f1 o 2 + 1) = sv_u (sv_row f (o + 2) (fun j => if 598 * (if f o 2 = 6 then 5 else f o 2) ≤ j ∧ j < 598 * (if f o 2 = 6 then 5 else f o 2) + 598 then f (o + 1) (j - 598 * (if f o 2 = 6 then 5 else f o 2)) else if f o 2 = 6 ∧ 0 ≤ j ∧ j < 2990 then f (o + 2) (j + 598) else f (o + 2) j)) o 2 ((if f o 2 = 6 then 5 else f o 2) + 1)) → sv_T X (sv_rm 0 0 0) MX5_keeps (sv_Zm X 0 0 (sv_qv (fun f' => f' = sv_u (sv_row f (o + 2) (fun j => if 598 * (if f o 2 = 6 then 5 else f o 2) ≤ j ∧ j < 598 * (if f o 2 = 6 then 5 else f o 2) + 598 then f (o + 1) (j - 598 * (if f o 2 = 6 then 5 else f o 2)) else if f o 2 = 6 ∧ 0 ≤ j ∧ j < 2990 then f (o + 2) (j + 598) else f (o + 2) j)) o 2 ((if f o 2 = 6 then 5 else f o 2) + 1)) S r g)) 0 0 52 [some (sv_r o), some (sv_i i)] [] S (sv_row f1 (o + 2) (fun j => if 598 * f1 o 2 ≤ j ∧ j < 598 * f1 o 2 + i then f1 (o + 1) (j - 598 * f1 o 2) else f1 (o + 2) j)) r g := by
    intro k
    induction k with
    | zero =>
      intro i f1 hk h1 h2 hG
      exact absurd hk (by omega)
    | succ k ih =>
      intro i f1 hk h1 h2 hG
      refine sv_fr fun hin1 => ?_
      refine sv_iload_n (i := 1) dX5_keeps_52 rfl rfl ?_
      refine sv_sipush dX5_keeps_53 (by decide) ?_
      refine sv_icmp_ge (tgt := 86) dX5_keeps_56 (by decide) (by first | omega | exact hin _ _ | decide | (simp [sv_u, sv_row]; omega) | (simp [sv_u, sv_row]; exact hin _ _) | exact hin1 _ _ | (simp [sv_u, sv_row]; exact hin1 _ _)) (by first | omega | exact hin _ _ | decide | (simp [sv_u, sv_row]; omega) | (simp [sv_u, sv_row]; exact hin _ _) | exact hin1 _ _ | (simp [sv_u, sv_row]; exact hin1 _ _)) (fun h_56 => ?_) (fun h_56 => ?_)
      · refine sv_aload_n (i := 0) dX5_keeps_86 rfl rfl ?_
        refine sv_dup dX5_keeps_87 rfl ?_
        refine sv_getI (kz := 2) flX5_42 dX5_keeps_88 rfl rfl hsh.lt hsh.k ?_
        refine sv_iconst dX5_keeps_91 ?_
        refine sv_iadd dX5_keeps_92 ?_
        refine sv_putI (kz := 2) flX5_42 dX5_keeps_93 (Or.inl rfl) rfl rfl hsh.lt hsh.k (by first | omega | exact hin _ _ | decide | (simp [sv_u, sv_row]; omega) | (simp [sv_u, sv_row]; exact hin _ _) | exact hin1 _ _ | (simp [sv_u, sv_row]; exact hin1 _ _)) ?_
        refine sv_return dX5_keeps_96 rfl ?_
        exact ⟨rfl, rfl, rfl, rfl, by rw [← hG, show i = 598 by omega]; funext x y; grind [sv_u, sv_row]⟩
      · refine sv_aload_n (i := 0) dX5_keeps_59 rfl rfl ?_
        refine sv_getR (kz := 1) flX5_13 dX5_keeps_60 rfl rfl hsh.lt hsh.k hsh.r2 ?_
        refine sv_sipush dX5_keeps_63 (by decide) ?_
        refine sv_aload_n (i := 0) dX5_keeps_66 rfl rfl ?_
        refine sv_getI (kz := 2) flX5_42 dX5_keeps_67 rfl rfl hsh.lt hsh.k ?_
        refine sv_imul dX5_keeps_70 ?_
        refine sv_iload_n (i := 1) dX5_keeps_71 rfl rfl ?_
        refine sv_iadd dX5_keeps_72 ?_
        refine sv_aload_n (i := 0) dX5_keeps_73 rfl rfl ?_
        refine sv_getR (kz := 0) flX5_7 dX5_keeps_74 rfl rfl hsh.lt hsh.k hsh.r1 ?_
        refine sv_iload_n (i := 1) dX5_keeps_77 rfl rfl ?_
        refine sv_iald dX5_keeps_78 hsh.l1 hsh.s1 (by simp [sv_row]; omega) ?_
        refine sv_iast dX5_keeps_79 hsh.l2 hsh.s2 (by simp [sv_row]; omega) (by first | omega | exact hin _ _ | decide | (simp [sv_u, sv_row]; omega) | (simp [sv_u, sv_row]; exact hin _ _) | exact hin1 _ _ | (simp [sv_u, sv_row]; exact hin1 _ _)) ?_
        refine sv_iinc dX5_keeps_80 rfl (by decide) rfl ?_
        refine sv_goto (tgt := 52) dX5_keeps_83 (by decide) ?_
        exact sv_cast (ih (i + 1) f1 (by omega) (by omega) h2 hG) rfl rfl rfl rfl rfl (by funext x y; grind [sv_u, sv_row])
  have l1 : ∀ (k : Nat) (i : Int), 2990 - i < (k : Int) → (0 ≤ i ∧ i ≤ 2990) → (f o 2 = 6) → sv_T X (sv_rm 0 0 0) MX5_keeps (sv_Zm X 0 0 (sv_qv (fun f' => f' = sv_u (sv_row f (o + 2) (fun j => if 598 * (if f o 2 = 6 then 5 else f o 2) ≤ j ∧ j < 598 * (if f o 2 = 6 then 5 else f o 2) + 598 then f (o + 1) (j - 598 * (if f o 2 = 6 then 5 else f o 2)) else if f o 2 = 6 ∧ 0 ≤ j ∧ j < 2990 then f (o + 2) (j + 598) else f (o + 2) j)) o 2 ((if f o 2 = 6 then 5 else f o 2) + 1)) S r g)) 0 0 11 [some (sv_r o), some (sv_i i)] [] S (sv_row f (o + 2) (fun j => if 0 ≤ j ∧ j < i then f (o + 2) (j + 598) else f (o + 2) j)) r g := by
    intro k
    induction k with
    | zero =>
      intro i hk h1 hu6
      exact absurd hk (by omega)
    | succ k ih =>
      intro i hk h1 hu6
      refine sv_fr fun hin1 => ?_
      refine sv_iload_n (i := 1) dX5_keeps_11 rfl rfl ?_
      refine sv_sipush dX5_keeps_12 (by decide) ?_
      refine sv_icmp_ge (tgt := 40) dX5_keeps_15 (by decide) (by first | omega | exact hin _ _ | decide | (simp [sv_u, sv_row]; omega) | (simp [sv_u, sv_row]; exact hin _ _) | exact hin1 _ _ | (simp [sv_u, sv_row]; exact hin1 _ _)) (by first | omega | exact hin _ _ | decide | (simp [sv_u, sv_row]; omega) | (simp [sv_u, sv_row]; exact hin _ _) | exact hin1 _ _ | (simp [sv_u, sv_row]; exact hin1 _ _)) (fun h_15 => ?_) (fun h_15 => ?_)
      · refine sv_aload_n (i := 0) dX5_keeps_40 rfl rfl ?_
        refine sv_dup dX5_keeps_41 rfl ?_
        refine sv_getI (kz := 2) flX5_42 dX5_keeps_42 rfl rfl hsh.lt hsh.k ?_
        refine sv_iconst dX5_keeps_45 ?_
        refine sv_isub dX5_keeps_46 ?_
        refine sv_putI (kz := 2) flX5_42 dX5_keeps_47 (Or.inl rfl) rfl rfl hsh.lt hsh.k (by first | omega | exact hin _ _ | decide | (simp [sv_u, sv_row]; omega) | (simp [sv_u, sv_row]; exact hin _ _) | exact hin1 _ _ | (simp [sv_u, sv_row]; exact hin1 _ _)) ?_
        refine sv_iconst dX5_keeps_50 ?_
        refine sv_istore_n (i := 1) dX5_keeps_51 rfl (by decide) rfl ?_
        refine sv_cast (l2 599 0 (sv_u (sv_row f (o + 2) (fun j => if 0 ≤ j ∧ j < 2990 then f (o + 2) (j + 598) else f (o + 2) j)) o 2 5) (by omega) (by omega) (by simp [sv_u]) ?_) rfl rfl rfl rfl rfl ?_
        · funext x y
          simp [sv_u, sv_row, hu6]
          grind
        · rw [show i = 2990 by omega]
          funext x y
          grind [sv_u, sv_row]
      · refine sv_aload_n (i := 0) dX5_keeps_18 rfl rfl ?_
        refine sv_getR (kz := 1) flX5_13 dX5_keeps_19 rfl rfl hsh.lt hsh.k hsh.r2 ?_
        refine sv_iload_n (i := 1) dX5_keeps_22 rfl rfl ?_
        refine sv_aload_n (i := 0) dX5_keeps_23 rfl rfl ?_
        refine sv_getR (kz := 1) flX5_13 dX5_keeps_24 rfl rfl hsh.lt hsh.k hsh.r2 ?_
        refine sv_iload_n (i := 1) dX5_keeps_27 rfl rfl ?_
        refine sv_sipush dX5_keeps_28 (by decide) ?_
        refine sv_iadd dX5_keeps_31 ?_
        refine sv_iald dX5_keeps_32 hsh.l2 hsh.s2 (by omega) ?_
        refine sv_iast dX5_keeps_33 hsh.l2 hsh.s2 (by omega) (by first | omega | exact hin _ _ | decide | (simp [sv_u, sv_row]; omega) | (simp [sv_u, sv_row]; exact hin _ _) | exact hin1 _ _ | (simp [sv_u, sv_row]; exact hin1 _ _)) ?_
        refine sv_iinc dX5_keeps_34 rfl (by decide) rfl ?_
        refine sv_goto (tgt := 11) dX5_keeps_37 (by decide) ?_
        exact sv_cast (ih (i + 1) (by omega) (by omega) hu6) rfl rfl rfl rfl rfl (by funext x y; grind [sv_u, sv_row])
  refine sv_aload_n (i := 0) dX5_keeps_0 rfl rfl ?_
  refine sv_getI (kz := 2) flX5_42 dX5_keeps_1 rfl rfl hsh.lt hsh.k ?_
  refine sv_bipush dX5_keeps_4 (by decide) ?_
  refine sv_icmp_ne (tgt := 50) dX5_keeps_6 (by decide) (by first | omega | exact hin _ _ | decide | (simp [sv_u, sv_row]; omega) | (simp [sv_u, sv_row]; exact hin _ _) | exact hin1 _ _ | (simp [sv_u, sv_row]; exact hin1 _ _)) (by first | omega | exact hin _ _ | decide | (simp [sv_u, sv_row]; omega) | (simp [sv_u, sv_row]; exact hin _ _) | exact hin1 _ _ | (simp [sv_u, sv_row]; exact hin1 _ _)) (fun h_6 => ?_) (fun h_6 => ?_)
  · refine sv_iconst dX5_keeps_50 ?_
    refine sv_istore_n (i := 1) dX5_keeps_51 rfl (by decide) rfl ?_
    refine sv_cast (l2 599 0 f (by omega) (by omega) (by omega) ?_) rfl rfl rfl rfl rfl ?_
    · have hu6 : ¬ f o 2 = 6 := by omega
      simp [hu6]
    · funext x y
      grind [sv_u, sv_row]
  · refine sv_iconst dX5_keeps_9 ?_
    refine sv_istore_n (i := 1) dX5_keeps_10 rfl (by decide) rfl ?_
    exact sv_cast (l1 2991 0 (by omega) (by omega) (by omega)) rfl rfl rfl rfl rfl (by funext x y; grind [sv_u, sv_row])
set_option maxRecDepth 100000 in
set_option maxHeartbeats 4000000 in
theorem c_X5_undo {X : sv_X} {S : sv_S} {f : sv_F} {r : sv_R} {g : sv_G} {o : Nat} (hsh : sv_M5 S r o) (hu : 0 ≤ f o 2 ∧ f o 2 ≤ 6) : sv_C X 0 MX5_undo 0 0 [sv_r o] S f r g (sv_qi (fun a f' => (f o 2 = 0 ∧ a = -3 ∧ f' = f) ∨ (1 ≤ f o 2 ∧ a = f o 2 - 1 ∧ f' = sv_u (sv_row f (o + 1) (fun j => if 0 ≤ j ∧ j < 598 then f (o + 2) (598 * (f o 2 - 1) + j) else f (o + 1) j)) o 2 (f o 2 - 1))) S r g) := by
  refine sv_met (by decide) (by simp [lg_sl, sv_cv, va_rf, Value.category]) ?_
  refine sv_fr fun hin => ?_
  have lp : ∀ (k : Nat) (i : Int), 598 - i < (k : Int) → (0 ≤ i ∧ i ≤ 598) → (1 ≤ f o 2) → sv_T X (sv_rm 0 0 0) MX5_undo (sv_Zm X 0 0 (sv_qi (fun a f' => (f o 2 = 0 ∧ a = -3 ∧ f' = f) ∨ (1 ≤ f o 2 ∧ a = f o 2 - 1 ∧ f' = sv_u (sv_row f (o + 1) (fun j => if 0 ≤ j ∧ j < 598 then f (o + 2) (598 * (f o 2 - 1) + j) else f (o + 1) j)) o 2 (f o 2 - 1))) S r g)) 0 0 22 [some (sv_r o), some (sv_i i)] [] S (sv_u (sv_row f (o + 1) (fun j => if 0 ≤ j ∧ j < i then f (o + 2) (598 * (f o 2 - 1) + j) else f (o + 1) j)) o 2 (f o 2 - 1)) r g := by
    intro k
    induction k with
    | zero =>
      intro i hk h1 h2
      exact absurd hk (by omega)
    | succ k ih =>
      intro i hk h1 h2
      refine sv_fr fun hin1 => ?_
      refine sv_iload_n (i := 1) dX5_undo_22 rfl rfl ?_
      refine sv_sipush dX5_undo_23 (by decide) ?_
      refine sv_icmp_ge (tgt := 56) dX5_undo_26 (by decide) (by first | omega | exact hin _ _ | decide | (simp [sv_u, sv_row]; omega) | (simp [sv_u, sv_row]; exact hin _ _) | exact hin1 _ _ | (simp [sv_u, sv_row]; exact hin1 _ _)) (by first | omega | exact hin _ _ | decide | (simp [sv_u, sv_row]; omega) | (simp [sv_u, sv_row]; exact hin _ _) | exact hin1 _ _ | (simp [sv_u, sv_row]; exact hin1 _ _)) (fun h_26 => ?_) (fun h_26 => ?_)
      · refine sv_aload_n (i := 0) dX5_undo_56 rfl rfl ?_
        refine sv_getI (kz := 2) flX5_42 dX5_undo_57 rfl rfl hsh.lt hsh.k ?_
        refine sv_ireturn dX5_undo_60 rfl ?_
        exact ⟨_, rfl, rfl, rfl, rfl, Or.inr ⟨by omega, by simp [sv_u], by rw [show i = 598 by omega]⟩⟩
      · refine sv_aload_n (i := 0) dX5_undo_29 rfl rfl ?_
        refine sv_getR (kz := 0) flX5_7 dX5_undo_30 rfl rfl hsh.lt hsh.k hsh.r1 ?_
        refine sv_iload_n (i := 1) dX5_undo_33 rfl rfl ?_
        refine sv_aload_n (i := 0) dX5_undo_34 rfl rfl ?_
        refine sv_getR (kz := 1) flX5_13 dX5_undo_35 rfl rfl hsh.lt hsh.k hsh.r2 ?_
        refine sv_sipush dX5_undo_38 (by decide) ?_
        refine sv_aload_n (i := 0) dX5_undo_41 rfl rfl ?_
        refine sv_getI (kz := 2) flX5_42 dX5_undo_42 rfl rfl hsh.lt hsh.k ?_
        refine sv_imul dX5_undo_45 ?_
        refine sv_iload_n (i := 1) dX5_undo_46 rfl rfl ?_
        refine sv_iadd dX5_undo_47 ?_
        refine sv_iald dX5_undo_48 hsh.l2 hsh.s2 (by simp [sv_u]; omega) ?_
        refine sv_iast dX5_undo_49 hsh.l1 hsh.s1 (by omega) (by first | omega | exact hin _ _ | decide | (simp [sv_u, sv_row]; omega) | (simp [sv_u, sv_row]; exact hin _ _) | exact hin1 _ _ | (simp [sv_u, sv_row]; exact hin1 _ _)) ?_
        refine sv_iinc dX5_undo_50 rfl (by decide) rfl ?_
        refine sv_goto (tgt := 22) dX5_undo_53 (by decide) ?_
        exact sv_cast (ih (i + 1) (by omega) (by omega) h2) rfl rfl rfl rfl rfl (by
          funext x y
          by_cases e0 : x = o + 1
          · subst e0
            simp [sv_u, sv_row]
            try grind
          by_cases e1 : x = o
          · subst e1
            simp [sv_u, sv_row]
            try grind
          simp [sv_u, sv_row, *])
  refine sv_aload_n (i := 0) dX5_undo_0 rfl rfl ?_
  refine sv_getI (kz := 2) flX5_42 dX5_undo_1 rfl rfl hsh.lt hsh.k ?_
  refine sv_if_ne (tgt := 10) dX5_undo_4 (by decide) (by first | omega | exact hin _ _ | decide | (simp [sv_u, sv_row]; omega) | (simp [sv_u, sv_row]; exact hin _ _) | exact hin1 _ _ | (simp [sv_u, sv_row]; exact hin1 _ _)) (fun h_4 => ?_) (fun h_4 => ?_)
  · refine sv_aload_n (i := 0) dX5_undo_10 rfl rfl ?_
    refine sv_dup dX5_undo_11 rfl ?_
    refine sv_getI (kz := 2) flX5_42 dX5_undo_12 rfl rfl hsh.lt hsh.k ?_
    refine sv_iconst dX5_undo_15 ?_
    refine sv_isub dX5_undo_16 ?_
    refine sv_putI (kz := 2) flX5_42 dX5_undo_17 (Or.inl rfl) rfl rfl hsh.lt hsh.k (by first | omega | exact hin _ _ | decide | (simp [sv_u, sv_row]; omega) | (simp [sv_u, sv_row]; exact hin _ _) | exact hin1 _ _ | (simp [sv_u, sv_row]; exact hin1 _ _)) ?_
    refine sv_iconst dX5_undo_20 ?_
    refine sv_istore_n (i := 1) dX5_undo_21 rfl (by decide) rfl ?_
    exact sv_cast (lp 599 0 (by omega) (by omega) (by omega)) rfl rfl rfl rfl rfl (by
      funext x y
      by_cases e0 : x = o + 1
      · subst e0
        simp [sv_u, sv_row]
        try grind
      by_cases e1 : x = o
      · subst e1
        simp [sv_u, sv_row]
        try grind
      simp [sv_u, sv_row, *])
  · refine sv_bipush dX5_undo_7 (by decide) ?_
    refine sv_ireturn dX5_undo_9 rfl ?_
    exact ⟨_, rfl, rfl, rfl, rfl, Or.inl ⟨by omega, rfl, rfl⟩⟩
set_option maxRecDepth 100000 in
set_option maxHeartbeats 4000000 in
theorem c_X5_setsAside {X : sv_X} {S : sv_S} {f : sv_F} {r : sv_R} {g : sv_G} {o : Nat} (hsh : sv_M5 S r o) : sv_C X 0 MX5_setsAside 0 0 [sv_r o] S f r g (sv_qv (fun f' => f' = sv_row f (o + 6) (fun j => if 0 ≤ j ∧ j < 12 then f (o + 3) j else f (o + 6) j)) S r g) := by
  refine sv_met (by decide) (by simp [lg_sl, sv_cv, va_rf, Value.category]) ?_
  refine sv_fr fun hin => ?_
  have lp : ∀ (k : Nat) (i : Int), 12 - i < (k : Int) → (0 ≤ i ∧ i ≤ 12) → sv_T X (sv_rm 0 0 0) MX5_setsAside (sv_Zm X 0 0 (sv_qv (fun f' => f' = sv_row f (o + 6) (fun j => if 0 ≤ j ∧ j < 12 then f (o + 3) j else f (o + 6) j)) S r g)) 0 0 2 [some (sv_r o), some (sv_i i)] [] S (sv_row f (o + 6) (fun j => if 0 ≤ j ∧ j < i then f (o + 3) j else f (o + 6) j)) r g := by
    intro k
    induction k with
    | zero =>
      intro i hk h1
      exact absurd hk (by omega)
    | succ k ih =>
      intro i hk h1
      refine sv_fr fun hin1 => ?_
      refine sv_iload_n (i := 1) dX5_setsAside_2 rfl rfl ?_
      refine sv_bipush dX5_setsAside_3 (by decide) ?_
      refine sv_icmp_ge (tgt := 26) dX5_setsAside_5 (by decide) (by first | omega | exact hin _ _ | decide | (simp [sv_u, sv_row]; omega) | (simp [sv_u, sv_row]; exact hin _ _) | exact hin1 _ _ | (simp [sv_u, sv_row]; exact hin1 _ _)) (by first | omega | exact hin _ _ | decide | (simp [sv_u, sv_row]; omega) | (simp [sv_u, sv_row]; exact hin _ _) | exact hin1 _ _ | (simp [sv_u, sv_row]; exact hin1 _ _)) (fun h_5 => ?_) (fun h_5 => ?_)
      · refine sv_return dX5_setsAside_26 rfl ?_
        exact ⟨rfl, rfl, rfl, rfl, by rw [show i = 12 by omega]⟩
      · refine sv_aload_n (i := 0) dX5_setsAside_8 rfl rfl ?_
        refine sv_getR (kz := 8) flX5_25 dX5_setsAside_9 rfl rfl hsh.lt hsh.k hsh.r6 ?_
        refine sv_iload_n (i := 1) dX5_setsAside_12 rfl rfl ?_
        refine sv_aload_n (i := 0) dX5_setsAside_13 rfl rfl ?_
        refine sv_getR (kz := 3) flX5_16 dX5_setsAside_14 rfl rfl hsh.lt hsh.k hsh.r3 ?_
        refine sv_iload_n (i := 1) dX5_setsAside_17 rfl rfl ?_
        refine sv_iald dX5_setsAside_18 hsh.l3 hsh.s3 (by omega) ?_
        refine sv_iast dX5_setsAside_19 hsh.l6 hsh.s6 (by omega) (by first | omega | exact hin _ _ | decide | (simp [sv_u, sv_row]; omega) | (simp [sv_u, sv_row]; exact hin _ _) | exact hin1 _ _ | (simp [sv_u, sv_row]; exact hin1 _ _)) ?_
        refine sv_iinc dX5_setsAside_20 rfl (by decide) rfl ?_
        refine sv_goto (tgt := 2) dX5_setsAside_23 (by decide) ?_
        exact sv_cast (ih (i + 1) (by omega) (by omega)) rfl rfl rfl rfl rfl (by funext x y; grind [sv_u, sv_row])
  refine sv_iconst dX5_setsAside_0 ?_
  refine sv_istore_n (i := 1) dX5_setsAside_1 rfl (by decide) rfl ?_
  exact sv_cast (lp 13 0 (by omega) (by omega)) rfl rfl rfl rfl rfl (by funext x y; grind [sv_u, sv_row])
set_option maxRecDepth 100000 in
set_option maxHeartbeats 4000000 in
theorem c_X5_differences {X : sv_X} {S : sv_S} {f : sv_F} {r : sv_R} {g : sv_G} {o : Nat} (hsh : sv_M5 S r o) (n : Int) (hn : 0 ≤ n ∧ n ≤ 12) : sv_C X 0 MX5_differences 0 0 [sv_r o, sv_i n] S f r g (sv_qp (some (sv_i (sp_dn (f (o + 3)) (f (o + 6)) n.toNat))) S f r g) := by
  refine sv_met (by decide) (by simp [lg_sl, sv_cv, va_rf, Value.category]) ?_
  refine sv_fr fun hin => ?_
  have lp : ∀ (k : Nat) (d : Int) (i : Int), n - i < (k : Int) → (0 ≤ i ∧ i ≤ n) → (d = sp_dn (f (o + 3)) (f (o + 6)) i.toNat) → sv_T X (sv_rm 0 0 0) MX5_differences (sv_Zm X 0 0 (sv_qp (some (sv_i (sp_dn (f (o + 3)) (f (o + 6)) n.toNat))) S f r g)) 0 0 4 [some (sv_r o), some (sv_i n), some (sv_i d), some (sv_i i)] [] S (f) r g := by
    intro k
    induction k with
    | zero =>
      intro d i hk h1 hd
      exact absurd hk (by omega)
    | succ k ih =>
      intro d i hk h1 hd
      have hd1 := sp_dn_in (f (o + 3)) (f (o + 6)) i.toNat
      refine sv_iload_n (i := 3) dX5_differences_4 rfl rfl ?_
      refine sv_iload_n (i := 1) dX5_differences_5 rfl rfl ?_
      refine sv_icmp_ge (tgt := 38) dX5_differences_6 (by decide) (by first | omega | exact hin _ _ | decide | (simp [sv_u, sv_row]; omega) | (simp [sv_u, sv_row]; exact hin _ _) | exact hin1 _ _ | (simp [sv_u, sv_row]; exact hin1 _ _)) (by first | omega | exact hin _ _ | decide | (simp [sv_u, sv_row]; omega) | (simp [sv_u, sv_row]; exact hin _ _) | exact hin1 _ _ | (simp [sv_u, sv_row]; exact hin1 _ _)) (fun h_6 => ?_) (fun h_6 => ?_)
      · refine sv_iload_n (i := 2) dX5_differences_38 rfl rfl ?_
        refine sv_ireturn dX5_differences_39 rfl ?_
        exact ⟨by rw [hd, show i = n by omega], rfl, rfl, rfl, rfl⟩
      · refine sv_iload_n (i := 2) dX5_differences_9 rfl rfl ?_
        refine sv_aload_n (i := 0) dX5_differences_10 rfl rfl ?_
        refine sv_getR (kz := 3) flX5_16 dX5_differences_11 rfl rfl hsh.lt hsh.k hsh.r3 ?_
        refine sv_iload_n (i := 3) dX5_differences_14 rfl rfl ?_
        refine sv_iald dX5_differences_15 hsh.l3 hsh.s3 (by omega) ?_
        refine sv_aload_n (i := 0) dX5_differences_16 rfl rfl ?_
        refine sv_getR (kz := 8) flX5_25 dX5_differences_17 rfl rfl hsh.lt hsh.k hsh.r6 ?_
        refine sv_iload_n (i := 3) dX5_differences_20 rfl rfl ?_
        refine sv_iald dX5_differences_21 hsh.l6 hsh.s6 (by omega) ?_
        refine sv_icmp_ne (tgt := 29) dX5_differences_22 (by decide) (by first | omega | exact hin _ _ | decide | (simp [sv_u, sv_row]; omega) | (simp [sv_u, sv_row]; exact hin _ _) | exact hin1 _ _ | (simp [sv_u, sv_row]; exact hin1 _ _)) (by first | omega | exact hin _ _ | decide | (simp [sv_u, sv_row]; omega) | (simp [sv_u, sv_row]; exact hin _ _) | exact hin1 _ _ | (simp [sv_u, sv_row]; exact hin1 _ _)) (fun h_22 => ?_) (fun h_22 => ?_)
        · refine sv_iconst dX5_differences_29 ?_
          refine sv_iadd dX5_differences_30 ?_
          refine sv_istore_n (i := 2) dX5_differences_31 rfl (by decide) rfl ?_
          refine sv_iinc dX5_differences_32 rfl (by decide) rfl ?_
          refine sv_goto (tgt := 4) dX5_differences_35 (by decide) ?_
          exact ih _ _ (by omega) (by omega) (by rw [sp_dn_s (by omega), hd]; simp [h_22])
        · refine sv_iconst dX5_differences_25 ?_
          refine sv_goto (tgt := 30) dX5_differences_26 (by decide) ?_
          refine sv_iadd dX5_differences_30 ?_
          refine sv_istore_n (i := 2) dX5_differences_31 rfl (by decide) rfl ?_
          refine sv_iinc dX5_differences_32 rfl (by decide) rfl ?_
          refine sv_goto (tgt := 4) dX5_differences_35 (by decide) ?_
          exact ih _ _ (by omega) (by omega) (by rw [sp_dn_s (by omega), hd]; simp [h_22])
  refine sv_iconst dX5_differences_0 ?_
  refine sv_istore_n (i := 2) dX5_differences_1 rfl (by decide) rfl ?_
  refine sv_iconst dX5_differences_2 ?_
  refine sv_istore_n (i := 3) dX5_differences_3 rfl (by decide) rfl ?_
  exact lp (n + 1).toNat 0 0 (by omega) (by omega) rfl
set_option maxRecDepth 100000 in
set_option maxHeartbeats 4000000 in
theorem c_X5_writesWhole {X : sv_X} {S : sv_S} {f : sv_F} {r : sv_R} {g : sv_G} {o : Nat} (hsh : sv_M5 S r o) (s : Int) (hs : 0 ≤ s ∧ s < 20) (hfm : 1 ≤ f (o + 1) (29 * s + 1) ∧ f (o + 1) (29 * s + 1) ≤ 3) : sv_C X 1 MX5_writesWhole 0 0 [sv_r o, sv_i s] S f r g (sv_qv (fun f' => f' = sv_row f (o + 1) (sp_ww (f (o + 1)) s (6 + 2 * f (o + 1) (29 * s + 1)) 12 (f (o + 6)))) S r g) := by
  refine sv_met (by decide) (by simp [lg_sl, sv_cv, va_rf, Value.category]) ?_
  refine sv_fr fun hin => ?_
  have lp : ∀ (k : Nat) (i : Int), 12 - i < (k : Int) → (0 ≤ i ∧ i ≤ 12) → sv_T X (sv_rm 1 0 0) MX5_writesWhole (sv_Zm X 0 0 (sv_qv (fun f' => f' = sv_row f (o + 1) (sp_ww (f (o + 1)) s (6 + 2 * f (o + 1) (29 * s + 1)) 12 (f (o + 6)))) S r g)) 0 0 26 [some (sv_r o), some (sv_i s), some (sv_i (6 + 2 * f (o + 1) (29 * s + 1))), some (sv_i i)] [] S (sv_row f (o + 1) (sp_ww (f (o + 1)) s (6 + 2 * f (o + 1) (29 * s + 1)) i (f (o + 6)))) r g := by
    intro k
    induction k with
    | zero =>
      intro i hk h1
      exact absurd hk (by omega)
    | succ k ih =>
      intro i hk h1
      refine sv_fr fun hin1 => ?_
      refine sv_iload_n (i := 3) dX5_writesWhole_26 rfl rfl ?_
      refine sv_bipush dX5_writesWhole_27 (by decide) ?_
      refine sv_icmp_ge (tgt := 80) dX5_writesWhole_29 (by decide) (by first | omega | exact hin _ _ | decide | (simp [sv_u, sv_row]; omega) | (simp [sv_u, sv_row]; exact hin _ _) | exact hin1 _ _ | (simp [sv_u, sv_row]; exact hin1 _ _)) (by first | omega | exact hin _ _ | decide | (simp [sv_u, sv_row]; omega) | (simp [sv_u, sv_row]; exact hin _ _) | exact hin1 _ _ | (simp [sv_u, sv_row]; exact hin1 _ _)) (fun h_29 => ?_) (fun h_29 => ?_)
      · refine sv_return dX5_writesWhole_80 rfl ?_
        exact ⟨rfl, rfl, rfl, rfl, by rw [show i = 12 by omega]⟩
      · refine sv_aload_n (i := 0) dX5_writesWhole_32 rfl rfl ?_
        refine sv_iload_n (i := 1) dX5_writesWhole_33 rfl rfl ?_
        refine sv_iconst dX5_writesWhole_34 ?_
        refine sv_iload_n (i := 3) dX5_writesWhole_35 rfl rfl ?_
        refine sv_iadd dX5_writesWhole_36 ?_
        refine sv_iload_n (i := 3) dX5_writesWhole_37 rfl rfl ?_
        refine sv_iload_n (i := 2) dX5_writesWhole_38 rfl rfl ?_
        refine sv_icmp_ge (tgt := 46) dX5_writesWhole_39 (by decide) (by first | omega | exact hin _ _ | decide | (simp [sv_u, sv_row]; omega) | (simp [sv_u, sv_row]; exact hin _ _) | exact hin1 _ _ | (simp [sv_u, sv_row]; exact hin1 _ _)) (by first | omega | exact hin _ _ | decide | (simp [sv_u, sv_row]; omega) | (simp [sv_u, sv_row]; exact hin _ _) | exact hin1 _ _ | (simp [sv_u, sv_row]; exact hin1 _ _)) (fun h_39 => ?_) (fun h_39 => ?_)
        · refine sv_iconst dX5_writesWhole_46 ?_
          refine sv_vv0 (As := [_, _, _]) clX5_77 dX5_writesWhole_47 ⟨_, rfl, rfl⟩ (by decide) rfl (Nat.le_of_ble_eq_true rfl) (by decide) (by decide) hsh.lt hsh.k (c_X5_put hsh _ _ _ (by omega) (by first | omega | (simp [sv_row, sv_u]; first | omega | exact hin _ _))) (fun f2 hf2 => ?_)
          subst hf2
          refine sv_aload_n (i := 0) dX5_writesWhole_50 rfl rfl ?_
          refine sv_iload_n (i := 1) dX5_writesWhole_51 rfl rfl ?_
          refine sv_bipush dX5_writesWhole_52 (by decide) ?_
          refine sv_iload_n (i := 3) dX5_writesWhole_54 rfl rfl ?_
          refine sv_iadd dX5_writesWhole_55 ?_
          refine sv_iload_n (i := 3) dX5_writesWhole_56 rfl rfl ?_
          refine sv_iload_n (i := 2) dX5_writesWhole_57 rfl rfl ?_
          refine sv_icmp_ge (tgt := 70) dX5_writesWhole_58 (by decide) (by first | omega | exact hin _ _ | decide | (simp [sv_u, sv_row]; omega) | (simp [sv_u, sv_row]; exact hin _ _) | exact hin1 _ _ | (simp [sv_u, sv_row]; exact hin1 _ _)) (by first | omega | exact hin _ _ | decide | (simp [sv_u, sv_row]; omega) | (simp [sv_u, sv_row]; exact hin _ _) | exact hin1 _ _ | (simp [sv_u, sv_row]; exact hin1 _ _)) (fun h_58 => ?_) (fun h_58 => ?_)
          · refine sv_iconst dX5_writesWhole_70 ?_
            refine sv_vv0 (As := [_, _, _]) clX5_77 dX5_writesWhole_71 ⟨_, rfl, rfl⟩ (by decide) rfl (Nat.le_of_ble_eq_true rfl) (by decide) (by decide) hsh.lt hsh.k (c_X5_put hsh _ _ _ (by omega) (by first | omega | (simp [sv_row, sv_u]; first | omega | exact hin _ _))) (fun f2 hf2 => ?_)
            subst hf2
            refine sv_iinc dX5_writesWhole_74 rfl (by decide) rfl ?_
            refine sv_goto (tgt := 26) dX5_writesWhole_77 (by decide) ?_
            exact sv_cast (ih (i + 1) (by omega) (by omega)) rfl rfl rfl rfl rfl (by funext x y; grind [sv_u, sv_row, sp_ww])
          · refine sv_aload_n (i := 0) dX5_writesWhole_61 rfl rfl ?_
            refine sv_getR (kz := 8) flX5_25 dX5_writesWhole_62 rfl rfl hsh.lt hsh.k hsh.r6 ?_
            refine sv_iload_n (i := 3) dX5_writesWhole_65 rfl rfl ?_
            refine sv_iald dX5_writesWhole_66 hsh.l6 hsh.s6 (by omega) ?_
            refine sv_goto (tgt := 71) dX5_writesWhole_67 (by decide) ?_
            refine sv_vv0 (As := [_, _, _]) clX5_77 dX5_writesWhole_71 ⟨_, rfl, rfl⟩ (by decide) rfl (Nat.le_of_ble_eq_true rfl) (by decide) (by decide) hsh.lt hsh.k (c_X5_put hsh _ _ _ (by omega) (by first | omega | (simp [sv_row, sv_u]; first | omega | exact hin _ _))) (fun f2 hf2 => ?_)
            subst hf2
            refine sv_iinc dX5_writesWhole_74 rfl (by decide) rfl ?_
            refine sv_goto (tgt := 26) dX5_writesWhole_77 (by decide) ?_
            exact sv_cast (ih (i + 1) (by omega) (by omega)) rfl rfl rfl rfl rfl (by funext x y; grind [sv_u, sv_row, sp_ww])
        · refine sv_iload_n (i := 3) dX5_writesWhole_42 rfl rfl ?_
          refine sv_goto (tgt := 47) dX5_writesWhole_43 (by decide) ?_
          refine sv_vv0 (As := [_, _, _]) clX5_77 dX5_writesWhole_47 ⟨_, rfl, rfl⟩ (by decide) rfl (Nat.le_of_ble_eq_true rfl) (by decide) (by decide) hsh.lt hsh.k (c_X5_put hsh _ _ _ (by omega) (by first | omega | (simp [sv_row, sv_u]; first | omega | exact hin _ _))) (fun f2 hf2 => ?_)
          subst hf2
          refine sv_aload_n (i := 0) dX5_writesWhole_50 rfl rfl ?_
          refine sv_iload_n (i := 1) dX5_writesWhole_51 rfl rfl ?_
          refine sv_bipush dX5_writesWhole_52 (by decide) ?_
          refine sv_iload_n (i := 3) dX5_writesWhole_54 rfl rfl ?_
          refine sv_iadd dX5_writesWhole_55 ?_
          refine sv_iload_n (i := 3) dX5_writesWhole_56 rfl rfl ?_
          refine sv_iload_n (i := 2) dX5_writesWhole_57 rfl rfl ?_
          refine sv_icmp_ge (tgt := 70) dX5_writesWhole_58 (by decide) (by first | omega | exact hin _ _ | decide | (simp [sv_u, sv_row]; omega) | (simp [sv_u, sv_row]; exact hin _ _) | exact hin1 _ _ | (simp [sv_u, sv_row]; exact hin1 _ _)) (by first | omega | exact hin _ _ | decide | (simp [sv_u, sv_row]; omega) | (simp [sv_u, sv_row]; exact hin _ _) | exact hin1 _ _ | (simp [sv_u, sv_row]; exact hin1 _ _)) (fun h_58 => ?_) (fun h_58 => ?_)
          · refine sv_iconst dX5_writesWhole_70 ?_
            refine sv_vv0 (As := [_, _, _]) clX5_77 dX5_writesWhole_71 ⟨_, rfl, rfl⟩ (by decide) rfl (Nat.le_of_ble_eq_true rfl) (by decide) (by decide) hsh.lt hsh.k (c_X5_put hsh _ _ _ (by omega) (by first | omega | (simp [sv_row, sv_u]; first | omega | exact hin _ _))) (fun f2 hf2 => ?_)
            subst hf2
            refine sv_iinc dX5_writesWhole_74 rfl (by decide) rfl ?_
            refine sv_goto (tgt := 26) dX5_writesWhole_77 (by decide) ?_
            exact sv_cast (ih (i + 1) (by omega) (by omega)) rfl rfl rfl rfl rfl (by funext x y; grind [sv_u, sv_row, sp_ww])
          · refine sv_aload_n (i := 0) dX5_writesWhole_61 rfl rfl ?_
            refine sv_getR (kz := 8) flX5_25 dX5_writesWhole_62 rfl rfl hsh.lt hsh.k hsh.r6 ?_
            refine sv_iload_n (i := 3) dX5_writesWhole_65 rfl rfl ?_
            refine sv_iald dX5_writesWhole_66 hsh.l6 hsh.s6 (by omega) ?_
            refine sv_goto (tgt := 71) dX5_writesWhole_67 (by decide) ?_
            refine sv_vv0 (As := [_, _, _]) clX5_77 dX5_writesWhole_71 ⟨_, rfl, rfl⟩ (by decide) rfl (Nat.le_of_ble_eq_true rfl) (by decide) (by decide) hsh.lt hsh.k (c_X5_put hsh _ _ _ (by omega) (by first | omega | (simp [sv_row, sv_u]; first | omega | exact hin _ _))) (fun f2 hf2 => ?_)
            subst hf2
            refine sv_iinc dX5_writesWhole_74 rfl (by decide) rfl ?_
            refine sv_goto (tgt := 26) dX5_writesWhole_77 (by decide) ?_
            exact sv_cast (ih (i + 1) (by omega) (by omega)) rfl rfl rfl rfl rfl (by funext x y; grind [sv_u, sv_row, sp_ww])
  refine sv_aload_n (i := 0) dX5_writesWhole_0 rfl rfl ?_
  refine sv_iload_n (i := 1) dX5_writesWhole_1 rfl rfl ?_
  refine sv_iconst dX5_writesWhole_2 ?_
  refine sv_vp0 (As := [_, _]) clX5_38 dX5_writesWhole_3 ⟨_, rfl, rfl⟩ (by decide) rfl (Nat.le_of_ble_eq_true rfl) (by decide) (by decide) hsh.lt hsh.k (c_X5_of hsh (by first | exact hm | rfl | (simp only [sv_u_ne, sv_row_ne, sv_row_eq, ne_eq, Nat.add_left_cancel_iff, Nat.reduceEqDiff, not_false_eq_true, Nat.add_eq_left, reduceCtorEq, OfNat.ofNat_ne_zero, OfNat.one_ne_ofNat, OfNat.ofNat_ne_one, one_ne_zero, Nat.succ_ne_self]; first | exact hm | rfl) | (simp [sv_u_ne, sv_row_ne, sv_row_eq]; done) | (simp [sv_u_ne, sv_row_ne, sv_row_eq]; exact hm)) _ _ (by omega)) ?_
  refine sv_sp0 (As := [_]) clX5_52 dX5_writesWhole_6 rfl (Nat.le_of_ble_eq_true rfl) (by decide) (by decide) (c_X5_valuesOf _) ?_
  refine sv_istore_n (i := 2) dX5_writesWhole_9 rfl (by decide) rfl ?_
  refine sv_aload_n (i := 0) dX5_writesWhole_10 rfl rfl ?_
  refine sv_iload_n (i := 1) dX5_writesWhole_11 rfl rfl ?_
  refine sv_iconst dX5_writesWhole_12 ?_
  refine sv_iconst dX5_writesWhole_13 ?_
  refine sv_vv0 (As := [_, _, _]) clX5_77 dX5_writesWhole_14 ⟨_, rfl, rfl⟩ (by decide) rfl (Nat.le_of_ble_eq_true rfl) (by decide) (by decide) hsh.lt hsh.k (c_X5_put hsh _ _ _ (by omega) (by first | omega | (simp [sv_row, sv_u]; first | omega | exact hin _ _))) (fun f2 hf2 => ?_)
  subst hf2
  refine sv_aload_n (i := 0) dX5_writesWhole_17 rfl rfl ?_
  refine sv_iload_n (i := 1) dX5_writesWhole_18 rfl rfl ?_
  refine sv_iconst dX5_writesWhole_19 ?_
  refine sv_iload_n (i := 2) dX5_writesWhole_20 rfl rfl ?_
  refine sv_vv0 (As := [_, _, _]) clX5_77 dX5_writesWhole_21 ⟨_, rfl, rfl⟩ (by decide) rfl (Nat.le_of_ble_eq_true rfl) (by decide) (by decide) hsh.lt hsh.k (c_X5_put hsh _ _ _ (by omega) (by first | omega | (simp [sv_row, sv_u]; first | omega | exact hin _ _))) (fun f2 hf2 => ?_)
  subst hf2
  refine sv_iconst dX5_writesWhole_24 ?_
  refine sv_istore_n (i := 3) dX5_writesWhole_25 rfl (by decide) rfl ?_
  exact sv_cast (lp 13 0 (by omega) (by omega)) rfl rfl rfl rfl rfl (by funext x y; grind [sv_u, sv_row, sp_ww])
set_option maxRecDepth 100000 in
set_option maxHeartbeats 4000000 in
theorem c_X5_writesDifference {X : sv_X} {S : sv_S} {f : sv_F} {r : sv_R} {g : sv_G} {o : Nat} (hsh : sv_M5 S r o) (s bs : Int) (hs : 0 ≤ s ∧ s < 20) (hb : sv_in bs) (hfm : 1 ≤ f (o + 1) (29 * s + 1) ∧ f (o + 1) (29 * s + 1) ≤ 3) : sv_C X 1 MX5_writesDifference 0 0 [sv_r o, sv_i s, sv_i bs] S f r g (sv_qv (fun f' => f' = sv_row f (o + 1) (sp_up (sp_up (sp_wd (f (o + 1)) s (f (o + 3)) (f (o + 6)) (6 + 2 * f (o + 1) (29 * s + 1)).toNat) (29 * s + 3) bs) (29 * s + 4) (sp_dn (f (o + 3)) (f (o + 6)) (6 + 2 * f (o + 1) (29 * s + 1)).toNat))) S r g) := by
  refine sv_met (by decide) (by simp [lg_sl, sv_cv, va_rf, Value.category]) ?_
  refine sv_fr fun hin => ?_
  have lp : ∀ (k : Nat) (i : Int) (d : Int), 12 - i < (k : Int) → (0 ≤ i ∧ i ≤ 6 + 2 * f (o + 1) (29 * s + 1)) → (d = sp_dn (f (o + 3)) (f (o + 6)) i.toNat) → sv_T X (sv_rm 1 0 0) MX5_writesDifference (sv_Zm X 0 0 (sv_qv (fun f' => f' = sv_row f (o + 1) (sp_up (sp_up (sp_wd (f (o + 1)) s (f (o + 3)) (f (o + 6)) (6 + 2 * f (o + 1) (29 * s + 1)).toNat) (29 * s + 3) bs) (29 * s + 4) (sp_dn (f (o + 3)) (f (o + 6)) (6 + 2 * f (o + 1) (29 * s + 1)).toNat))) S r g)) 0 0 5 [some (sv_r o), some (sv_i s), some (sv_i bs), some (sv_i d), some (sv_i i)] [] S (sv_row f (o + 1) (sp_wd (f (o + 1)) s (f (o + 3)) (f (o + 6)) i.toNat)) r g := by
    intro k
    induction k with
    | zero =>
      intro i d hk h1 hd
      exact absurd hk (by omega)
    | succ k ih =>
      intro i d hk h1 hd
      refine sv_fr fun hin1 => ?_
      have e1 : sp_wd (f (o + 1)) s (f (o + 3)) (f (o + 6)) i.toNat (29 * s + 1) = f (o + 1) (29 * s + 1) := sp_wd_out _ (by omega) (by omega)
      have hd1 := sp_dn_in (f (o + 3)) (f (o + 6)) i.toNat
      refine sv_iload dX5_writesDifference_5 rfl ?_
      refine sv_aload_n (i := 0) dX5_writesDifference_7 rfl rfl ?_
      refine sv_iload_n (i := 1) dX5_writesDifference_8 rfl rfl ?_
      refine sv_iconst dX5_writesDifference_9 ?_
      refine sv_vp0 (As := [_, _]) clX5_38 dX5_writesDifference_10 ⟨_, rfl, rfl⟩ (by decide) rfl (Nat.le_of_ble_eq_true rfl) (by decide) (by decide) hsh.lt hsh.k (c_X5_of hsh (by first | exact hm | rfl | (simp only [sv_u_ne, sv_row_ne, sv_row_eq, ne_eq, Nat.add_left_cancel_iff, Nat.reduceEqDiff, not_false_eq_true, Nat.add_eq_left, reduceCtorEq, OfNat.ofNat_ne_zero, OfNat.one_ne_ofNat, OfNat.ofNat_ne_one, one_ne_zero, Nat.succ_ne_self]; first | exact hm | rfl) | (simp [sv_u_ne, sv_row_ne, sv_row_eq]; done) | (simp [sv_u_ne, sv_row_ne, sv_row_eq]; exact hm)) _ _ (by omega)) ?_
      rw [show (sv_row f (o + 1) (sp_wd (f (o + 1)) s (f (o + 3)) (f (o + 6)) i.toNat)) (o + 1) (29 * s + 1) = f (o + 1) (29 * s + 1) by rw [sv_row_eq]; exact e1]
      refine sv_sp0 (As := [_]) clX5_52 dX5_writesDifference_13 rfl (Nat.le_of_ble_eq_true rfl) (by decide) (by decide) (c_X5_valuesOf _) ?_
      refine sv_icmp_ge (tgt := 71) dX5_writesDifference_16 (by decide) (by first | omega | exact hin _ _ | decide | (simp [sv_u, sv_row]; omega) | (simp [sv_u, sv_row]; exact hin _ _) | exact hin1 _ _ | (simp [sv_u, sv_row]; exact hin1 _ _)) (by first | omega | exact hin _ _ | decide | (simp [sv_u, sv_row]; omega) | (simp [sv_u, sv_row]; exact hin _ _) | exact hin1 _ _ | (simp [sv_u, sv_row]; exact hin1 _ _)) (fun h_16 => ?_) (fun h_16 => ?_)
      · 
        refine sv_aload_n (i := 0) dX5_writesDifference_71 rfl rfl ?_
        refine sv_iload_n (i := 1) dX5_writesDifference_72 rfl rfl ?_
        refine sv_iconst dX5_writesDifference_73 ?_
        refine sv_iload_n (i := 2) dX5_writesDifference_74 rfl rfl ?_
        refine sv_vv0 (As := [_, _, _]) clX5_77 dX5_writesDifference_75 ⟨_, rfl, rfl⟩ (by decide) rfl (Nat.le_of_ble_eq_true rfl) (by decide) (by decide) hsh.lt hsh.k (c_X5_put hsh _ _ _ (by omega) (by first | omega | (simp [sv_row, sv_u]; first | omega | exact hin _ _))) (fun f2 hf2 => ?_)
        subst hf2
        refine sv_aload_n (i := 0) dX5_writesDifference_78 rfl rfl ?_
        refine sv_iload_n (i := 1) dX5_writesDifference_79 rfl rfl ?_
        refine sv_iconst dX5_writesDifference_80 ?_
        refine sv_iload_n (i := 3) dX5_writesDifference_81 rfl rfl ?_
        refine sv_vv0 (As := [_, _, _]) clX5_77 dX5_writesDifference_82 ⟨_, rfl, rfl⟩ (by decide) rfl (Nat.le_of_ble_eq_true rfl) (by decide) (by decide) hsh.lt hsh.k (c_X5_put hsh _ _ _ (by omega) (by first | omega | (simp [sv_row, sv_u]; first | omega | exact hin _ _))) (fun f2 hf2 => ?_)
        subst hf2
        refine sv_return dX5_writesDifference_85 rfl ?_
        exact ⟨rfl, rfl, rfl, rfl, by rw [show i = 6 + 2 * f (o + 1) (29 * s + 1) by omega]; funext x y; grind [sv_u, sv_row, sp_up]⟩
      · refine sv_aload_n (i := 0) dX5_writesDifference_19 rfl rfl ?_
        refine sv_getR (kz := 3) flX5_16 dX5_writesDifference_20 rfl rfl hsh.lt hsh.k hsh.r3 ?_
        refine sv_iload dX5_writesDifference_23 rfl ?_
        refine sv_iald dX5_writesDifference_25 hsh.l3 hsh.s3 (by omega) ?_
        refine sv_aload_n (i := 0) dX5_writesDifference_26 rfl rfl ?_
        refine sv_getR (kz := 8) flX5_25 dX5_writesDifference_27 rfl rfl hsh.lt hsh.k hsh.r6 ?_
        refine sv_iload dX5_writesDifference_30 rfl ?_
        refine sv_iald dX5_writesDifference_32 hsh.l6 hsh.s6 (by omega) ?_
        refine sv_icmp_eq (tgt := 65) dX5_writesDifference_33 (by decide) (by first | omega | exact hin _ _ | decide | (simp [sv_u, sv_row]; omega) | (simp [sv_u, sv_row]; exact hin _ _) | exact hin1 _ _ | (simp [sv_u, sv_row]; exact hin1 _ _)) (by first | omega | exact hin _ _ | decide | (simp [sv_u, sv_row]; omega) | (simp [sv_u, sv_row]; exact hin _ _) | exact hin1 _ _ | (simp [sv_u, sv_row]; exact hin1 _ _)) (fun h_33 => ?_) (fun h_33 => ?_)
        · have h_33' : (f (o + 3) i = f (o + 6) i) ↔ (sv_row f (o + 1) (sp_wd (f (o + 1)) s (f (o + 3)) (f (o + 6)) i.toNat) (o + 3) i = sv_row f (o + 1) (sp_wd (f (o + 1)) s (f (o + 3)) (f (o + 6)) i.toNat) (o + 6) i) := by simp [sv_row]
          simp only [h_33, iff_true, iff_false] at h_33'
          refine sv_iinc dX5_writesDifference_65 rfl (by decide) rfl ?_
          refine sv_goto (tgt := 5) dX5_writesDifference_68 (by decide) ?_
          exact sv_cast (ih (i + 1) _ (by omega) (by omega) (by rw [sp_dn_s (by omega), hd]; simp [h_33'])) rfl rfl rfl rfl rfl (by rw [sp_wd_s (by omega)]; simp [h_33']; try simp [sv_u_row, sv_row_row, sv_row_eq, sv_row, hd])
        · have h_33' : ¬ f (o + 3) i = f (o + 6) i := by simpa [sv_row] using h_33
          refine sv_aload_n (i := 0) dX5_writesDifference_36 rfl rfl ?_
          refine sv_iload_n (i := 1) dX5_writesDifference_37 rfl rfl ?_
          refine sv_iconst dX5_writesDifference_38 ?_
          refine sv_iload_n (i := 3) dX5_writesDifference_39 rfl rfl ?_
          refine sv_iadd dX5_writesDifference_40 ?_
          refine sv_iload dX5_writesDifference_41 rfl ?_
          refine sv_vv0 (As := [_, _, _]) clX5_77 dX5_writesDifference_43 ⟨_, rfl, rfl⟩ (by decide) rfl (Nat.le_of_ble_eq_true rfl) (by decide) (by decide) hsh.lt hsh.k (c_X5_put hsh _ _ _ (by omega) (by first | omega | (simp [sv_row, sv_u]; first | omega | exact hin _ _))) (fun f2 hf2 => ?_)
          subst hf2
          refine sv_aload_n (i := 0) dX5_writesDifference_46 rfl rfl ?_
          refine sv_iload_n (i := 1) dX5_writesDifference_47 rfl rfl ?_
          refine sv_bipush dX5_writesDifference_48 (by decide) ?_
          refine sv_iload_n (i := 3) dX5_writesDifference_50 rfl rfl ?_
          refine sv_iadd dX5_writesDifference_51 ?_
          refine sv_aload_n (i := 0) dX5_writesDifference_52 rfl rfl ?_
          refine sv_getR (kz := 8) flX5_25 dX5_writesDifference_53 rfl rfl hsh.lt hsh.k hsh.r6 ?_
          refine sv_iload dX5_writesDifference_56 rfl ?_
          refine sv_iald dX5_writesDifference_58 hsh.l6 hsh.s6 (by omega) ?_
          refine sv_vv0 (As := [_, _, _]) clX5_77 dX5_writesDifference_59 ⟨_, rfl, rfl⟩ (by decide) rfl (Nat.le_of_ble_eq_true rfl) (by decide) (by decide) hsh.lt hsh.k (c_X5_put hsh _ _ _ (by omega) (by first | omega | (simp [sv_row, sv_u]; first | omega | exact hin _ _))) (fun f2 hf2 => ?_)
          subst hf2
          refine sv_iinc dX5_writesDifference_62 rfl (by decide) rfl ?_
          have h_33' : (f (o + 3) i = f (o + 6) i) ↔ (sv_row f (o + 1) (sp_wd (f (o + 1)) s (f (o + 3)) (f (o + 6)) i.toNat) (o + 3) i = sv_row f (o + 1) (sp_wd (f (o + 1)) s (f (o + 3)) (f (o + 6)) i.toNat) (o + 6) i) := by simp [sv_row]
          simp only [h_33, iff_true, iff_false] at h_33'
          refine sv_iinc dX5_writesDifference_65 rfl (by decide) rfl ?_
          refine sv_goto (tgt := 5) dX5_writesDifference_68 (by decide) ?_
          exact sv_cast (ih (i + 1) _ (by omega) (by omega) (by rw [sp_dn_s (by omega), hd]; simp [h_33'])) rfl rfl rfl rfl rfl (by rw [sp_wd_s (by omega)]; simp [h_33']; try simp [sv_u_row, sv_row_row, sv_row_eq, sv_row, hd])
  refine sv_iconst dX5_writesDifference_0 ?_
  refine sv_istore_n (i := 3) dX5_writesDifference_1 rfl (by decide) rfl ?_
  refine sv_iconst dX5_writesDifference_2 ?_
  refine sv_istore dX5_writesDifference_3 (by decide) rfl ?_
  exact sv_cast (lp 13 0 0 (by omega) (by omega) rfl) rfl rfl rfl rfl rfl (by rw [show (0 : Int).toNat = 0 from rfl]; exact sv_row_id)
end
section
set_option maxRecDepth 100000 in
set_option maxHeartbeats 4000000 in
theorem c_X5_climbs {X : sv_X} {S : sv_S} {f : sv_F} {r : sv_R} {g : sv_G} {o : Nat} {m : Int → Int} (hsh : sv_M5 S r o) (hm : f (o + 1) = m) (hw : sp_wt m) (n : Int) (hn : 0 ≤ n ∧ n ≤ 2147483647) : sv_C X 2 MX5_climbs 0 0 [sv_r o, sv_i n] S f r g (sv_qv (fun f' => ∃ L : Nat, 1 ≤ L ∧ L ≤ 21 ∧ (∀ k : Nat, k < L → sp_ch m n k ≠ -1) ∧ sp_ch m n L = -1 ∧ f' = sv_u (sv_row f (o + 4) (fun j => if 0 ≤ j ∧ j < (L : Int) then sp_ch m n j.toNat else f (o + 4) j)) o 7 (L : Int)) S r g) := by
  refine sv_met (by decide) (by simp [lg_sl, sv_cv, va_rf, Value.category]) ?_
  refine sv_fr fun hin => ?_
  have hcc := hw.c
  have lp : ∀ (k : Nat) (q : Nat) (x : Int), 22 - (q : Int) < (k : Int) → (q ≤ 21 ∧ (x ≠ -1 → q ≤ 20)) → (∀ k : Nat, k < q → sp_ch m n k ≠ -1) → (x = sp_ch m n q) → (sv_in x) → (x ≠ -1 → (q ≤ 20 ∧ (sp_slot m x ≠ -1 → sp_slot m x + q ≤ 19))) → sv_T X (sv_rm 2 0 0) MX5_climbs (sv_Zm X 0 0 (sv_qv (fun f' => ∃ L : Nat, 1 ≤ L ∧ L ≤ 21 ∧ (∀ k : Nat, k < L → sp_ch m n k ≠ -1) ∧ sp_ch m n L = -1 ∧ f' = sv_u (sv_row f (o + 4) (fun j => if 0 ≤ j ∧ j < (L : Int) then sp_ch m n j.toNat else f (o + 4) j)) o 7 (L : Int)) S r g)) 0 0 7 [some (sv_r o), some (sv_i n), some (sv_i x), none] [] S (sv_u (sv_row f (o + 4) (fun j => if 0 ≤ j ∧ j < (q : Int) then sp_ch m n j.toNat else f (o + 4) j)) o 7 (q : Int)) r g := by
    intro k
    induction k with
    | zero =>
      intro q x hk h1 h2 hx hi hbd
      exact absurd hk (by omega)
    | succ k ih =>
      intro q x hk h1 h2 hx hi hbd
      refine sv_fr fun hin1 => ?_
      refine sv_iload_n (i := 2) dX5_climbs_7 rfl rfl ?_
      refine sv_iconst dX5_climbs_8 ?_
      refine sv_icmp_eq (tgt := 57) dX5_climbs_9 (by decide) (by first | omega | exact hin _ _ | decide | (simp [sv_u, sv_row]; omega) | (simp [sv_u, sv_row]; exact hin _ _) | exact hin1 _ _ | (simp [sv_u, sv_row]; exact hin1 _ _)) (by first | omega | exact hin _ _ | decide | (simp [sv_u, sv_row]; omega) | (simp [sv_u, sv_row]; exact hin _ _) | exact hin1 _ _ | (simp [sv_u, sv_row]; exact hin1 _ _)) (fun h_9 => ?_) (fun h_9 => ?_)
      · refine sv_return dX5_climbs_57 rfl ?_
        refine ⟨rfl, rfl, rfl, rfl, q, ?_, h1.1, h2, by rw [← hx]; exact h_9, rfl⟩
        by_cases hq : q = 0
        · subst hq
          have : x = n := hx
          omega
        · omega
      · have hb := hbd h_9
        have hxn : sp_ch m n q ≠ -1 := by rw [← hx]; exact h_9
        refine sv_aload_n (i := 0) dX5_climbs_12 rfl rfl ?_
        refine sv_getR (kz := 5) flX5_19 dX5_climbs_13 rfl rfl hsh.lt hsh.k hsh.r4 ?_
        refine sv_aload_n (i := 0) dX5_climbs_16 rfl rfl ?_
        refine sv_getI (kz := 7) flX5_56 dX5_climbs_17 rfl rfl hsh.lt hsh.k ?_
        refine sv_iload_n (i := 2) dX5_climbs_20 rfl rfl ?_
        refine sv_iast dX5_climbs_21 hsh.l4 hsh.s4 (by simp [sv_u]; omega) (by first | omega | exact hin _ _ | decide | (simp [sv_u, sv_row]; omega) | (simp [sv_u, sv_row]; exact hin _ _) | exact hin1 _ _ | (simp [sv_u, sv_row]; exact hin1 _ _)) ?_
        refine sv_aload_n (i := 0) dX5_climbs_22 rfl rfl ?_
        refine sv_dup dX5_climbs_23 rfl ?_
        refine sv_getI (kz := 7) flX5_56 dX5_climbs_24 rfl rfl hsh.lt hsh.k ?_
        refine sv_iconst dX5_climbs_27 ?_
        refine sv_iadd dX5_climbs_28 ?_
        refine sv_putI (kz := 7) flX5_56 dX5_climbs_29 (Or.inl rfl) rfl rfl hsh.lt hsh.k (by first | omega | exact hin _ _ | decide | (simp [sv_u, sv_row]; omega) | (simp [sv_u, sv_row]; exact hin _ _) | exact hin1 _ _ | (simp [sv_u, sv_row]; exact hin1 _ _)) ?_
        refine sv_aload_n (i := 0) dX5_climbs_32 rfl rfl ?_
        refine sv_iload_n (i := 2) dX5_climbs_33 rfl rfl ?_
        refine sv_vp0 (As := [_]) clX5_59 dX5_climbs_34 ⟨_, rfl, rfl⟩ (by decide) rfl (Nat.le_of_ble_eq_true rfl) (by decide) (by decide) hsh.lt hsh.k (c_X5_slotOf (m := m) hsh (by first | exact hm | rfl | (simp only [sv_u_ne, sv_row_ne, sv_row_eq, ne_eq, Nat.add_left_cancel_iff, Nat.reduceEqDiff, not_false_eq_true, Nat.add_eq_left, reduceCtorEq, OfNat.ofNat_ne_zero, OfNat.one_ne_ofNat, OfNat.ofNat_ne_one, one_ne_zero, Nat.succ_ne_self]; first | exact hm | rfl) | (simp [sv_u_ne, sv_row_ne, sv_row_eq]; done) | (simp [sv_u_ne, sv_row_ne, sv_row_eq]; exact hm)) _ (by omega) hw.c) ?_
        refine sv_istore_n (i := 3) dX5_climbs_37 rfl (by decide) rfl ?_
        have hst := sp_slot_spec m x
        refine sv_iload_n (i := 3) dX5_climbs_38 rfl rfl ?_
        refine sv_iconst dX5_climbs_39 ?_
        refine sv_icmp_ne (tgt := 47) dX5_climbs_40 (by decide) (by first | omega | exact hin _ _ | decide | (simp [sv_u, sv_row]; omega) | (simp [sv_u, sv_row]; exact hin _ _) | exact hin1 _ _ | (simp [sv_u, sv_row]; exact hin1 _ _)) (by first | omega | exact hin _ _ | decide | (simp [sv_u, sv_row]; omega) | (simp [sv_u, sv_row]; exact hin _ _) | exact hin1 _ _ | (simp [sv_u, sv_row]; exact hin1 _ _)) (fun h_40 => ?_) (fun h_40 => ?_)
        · refine sv_aload_n (i := 0) dX5_climbs_47 rfl rfl ?_
          refine sv_iload_n (i := 3) dX5_climbs_48 rfl rfl ?_
          refine sv_iconst dX5_climbs_49 ?_
          refine sv_vp0 (As := [_, _]) clX5_38 dX5_climbs_50 ⟨_, rfl, rfl⟩ (by decide) rfl (Nat.le_of_ble_eq_true rfl) (by decide) (by decide) hsh.lt hsh.k (c_X5_of (m := m) hsh (by first | exact hm | rfl | (simp only [sv_u_ne, sv_row_ne, sv_row_eq, ne_eq, Nat.add_left_cancel_iff, Nat.reduceEqDiff, not_false_eq_true, Nat.add_eq_left, reduceCtorEq, OfNat.ofNat_ne_zero, OfNat.one_ne_ofNat, OfNat.ofNat_ne_one, one_ne_zero, Nat.succ_ne_self]; first | exact hm | rfl) | (simp [sv_u_ne, sv_row_ne, sv_row_eq]; done) | (simp [sv_u_ne, sv_row_ne, sv_row_eq]; exact hm)) _ _ (by omega)) ?_
          refine sv_istore_n (i := 2) dX5_climbs_53 rfl (by decide) rfl ?_
          refine sv_goto (tgt := 7) dX5_climbs_54 (by decide) ?_
          have hsl : sp_slot m x ≠ -1 := by assumption
          obtain ⟨g0, g1, g2⟩ := sp_slot_in hsl
          have hbs : sp_bs m x = m (29 * sp_slot m x + 3) := by unfold sp_bs; rw [if_neg hsl]
          have hbl := hw.bs_lt hsl
          rw [hbs] at hbl
          have hnm := hw.num g0 g1
          have hcm := hw.cm
          have hqq := hb.2 hsl
          refine sv_wk (ih (q + 1) (m (29 * sp_slot m x + 3)) (by omega) (by omega) (fun k hk => by
              by_cases e : k = q
              · rw [e]; exact hxn
              · exact h2 k (by omega)) (by show _ = sp_bs m (sp_ch m n q); rw [← hx, hbs]) (by omega) (fun h => ⟨by omega, fun h3 => by
            have := hw.down hsl (by rw [hbs]; exact h3)
            rw [hbs] at this
            omega⟩)) (by simp [sv_sub, sv_ent, sv_lng]) ?_
          exact (by
              funext a b
              by_cases e1 : a = o + 4
              · subst e1
                simp [sv_u, sv_row]
                by_cases e2 : b = (q : Int)
                · subst e2
                  simp [← hx]
                  try (intro h9; omega)
                · have e3 : (0 ≤ b ∧ b < (q : Int) + 1) ↔ (0 ≤ b ∧ b < (q : Int)) := by omega
                  simp [e2, e3]
              · by_cases e2 : a = o
                · subst e2
                  simp [sv_u, sv_row]
                  try grind
                · simp [sv_u, sv_row, e1, e2])
        · refine sv_iconst dX5_climbs_43 ?_
          refine sv_goto (tgt := 53) dX5_climbs_44 (by decide) ?_
          refine sv_istore_n dX5_climbs_53 rfl (by decide) rfl ?_
          refine sv_goto (tgt := 7) dX5_climbs_54 (by decide) ?_
          have hbs : sp_bs m x = -1 := by unfold sp_bs; rw [if_pos (by assumption)]
          refine sv_wk (ih (q + 1) (-1) (by omega) (by omega) (fun k hk => by
              by_cases e : k = q
              · rw [e]; exact hxn
              · exact h2 k (by omega)) (by show -1 = sp_bs m (sp_ch m n q); rw [← hx, hbs]) (by omega) (fun h => absurd rfl h)) (by simp [sv_sub, sv_ent, sv_lng]) ?_
          exact (by
              funext a b
              by_cases e1 : a = o + 4
              · subst e1
                simp [sv_u, sv_row]
                by_cases e2 : b = (q : Int)
                · subst e2
                  simp [← hx]
                  try (intro h9; omega)
                · have e3 : (0 ≤ b ∧ b < (q : Int) + 1) ↔ (0 ≤ b ∧ b < (q : Int)) := by omega
                  simp [e2, e3]
              · by_cases e2 : a = o
                · subst e2
                  simp [sv_u, sv_row]
                  try grind
                · simp [sv_u, sv_row, e1, e2])
  refine sv_aload_n (i := 0) dX5_climbs_0 rfl rfl ?_
  refine sv_iconst dX5_climbs_1 ?_
  refine sv_putI (kz := 7) flX5_56 dX5_climbs_2 (Or.inl rfl) rfl rfl hsh.lt hsh.k (by first | omega | exact hin _ _ | decide | (simp [sv_u, sv_row]; omega) | (simp [sv_u, sv_row]; exact hin _ _) | exact hin1 _ _ | (simp [sv_u, sv_row]; exact hin1 _ _)) ?_
  refine sv_iload_n (i := 1) dX5_climbs_5 rfl rfl ?_
  refine sv_istore_n (i := 2) dX5_climbs_6 rfl (by decide) rfl ?_
  refine sv_wk (lp 23 0 n (by omega) (by omega) (fun k hk => by omega) rfl (by omega) (fun _ => ⟨by omega, fun h => by
    obtain ⟨g0, g1, g2⟩ := sp_slot_in h
    omega⟩)) (by simp [sv_sub, sv_ent, sv_lng]) ?_
  funext a b
  by_cases e2 : a = o
  · subst e2
    simp [sv_u, sv_row]
  · by_cases e1 : a = o + 4
    · subst e1
      have e3 : ¬ (0 ≤ b ∧ b < 0) := by omega
      simp [sv_u, sv_row, e3]
    · simp [sv_u, sv_row, e1, e2]
end
section
set_option maxRecDepth 100000 in
set_option maxHeartbeats 4000000 in
theorem c_X5_reads {X : sv_X} {S : sv_S} {f : sv_F} {r : sv_R} {g : sv_G} {o : Nat} {m : Int → Int} (hsh : sv_M5 S r o) (hm : f (o + 1) = m) (hw : sp_wt m) (n : Int) (hn : 0 ≤ n ∧ n ≤ 2147483647) : sv_C X 3 MX5_reads 0 0 [sv_r o, sv_i n] S f r g (sv_qi (fun a f' => a = (if sp_R m n = -1 then 1 else 0) ∧ sp_rq o m n f f') S r g) := by
  refine sv_met (by decide) (by simp [lg_sl, sv_cv, va_rf, Value.category]) ?_
  refine sv_fr fun hin => ?_
  refine sv_aload_n (i := 0) dX5_reads_0 rfl rfl ?_
  refine sv_iload_n (i := 1) dX5_reads_1 rfl rfl ?_
  refine sv_vv0 (As := [_]) clX5_62 dX5_reads_2 ⟨_, rfl, rfl⟩ (by decide) rfl (Nat.le_of_ble_eq_true rfl) (by decide) (by decide) hsh.lt hsh.k (c_X5_climbs hsh hm hw _ hn) (fun f0 hf0 => ?_)
  obtain ⟨L, hL1, hL2, hL3, hL4, hf0⟩ := hf0
  have hcc := hw.c
  have e0 : (∀ x, x ≠ o → x ≠ o + 3 → x ≠ o + 4 → x ≠ o + 5 → f0 x = f x) := fun x h1 h2 h3 h4 => by
    rw [hf0, sv_u_ne h1, sv_row_ne h3]
  have e1 : (∀ j, j ≠ 4 → j ≠ 7 → f0 o j = f o j) := fun j h1 h2 => by
    rw [hf0]
    simp [sv_u, sv_row, h2]
  have e2 : f0 o 7 = L := by
    rw [hf0]
    simp [sv_u]
  have e3 : ∀ j : Nat, j < L → f0 (o + 4) j = sp_ch m n j := fun j hj => by
    rw [hf0]
    simp [sv_u, sv_row]
    omega
  clear hf0
  have lp : ∀ (k : Nat) (x : Int) (f1 : sv_F), x + 1 < (k : Int) → (-1 ≤ x ∧ x < L) → (∀ x, x ≠ o → x ≠ o + 3 → x ≠ o + 4 → x ≠ o + 5 → f1 x = f x) → (∀ j, j ≠ 4 → j ≠ 7 → f1 o j = f o j) → (f1 o 7 = L) → (∀ j : Nat, j < L → f1 (o + 4) j = sp_ch m n j) → (∀ j : Nat, x < (j : Int) → j < L → f1 (o + 5) j = sp_R m (sp_ch m n j)) → (∀ j : Nat, (j : Int) = x + 1 → j < L → sp_R m (sp_ch m n j) = -1 → f1 o 4 = m (29 * sp_slot m (sp_ch m n j) + 1) ∧ ∀ i, 0 ≤ i → i < 6 + 2 * m (29 * sp_slot m (sp_ch m n j) + 1) → f1 (o + 3) i = sp_V m (sp_ch m n j) i) → sv_T X (sv_rm 3 0 0) MX5_reads (sv_Zm X 0 0 (sv_qi (fun a f' => a = (if sp_R m n = -1 then 1 else 0) ∧ sp_rq o m n f f') S r g)) 0 0 12 [some (sv_r o), some (sv_i n), some (sv_i x), none, none] [] S (f1) r g := by
    intro k
    induction k with
    | zero =>
      intro x f1 hk h1 hfr hfo hL7 hch hre hva
      exact absurd hk (by omega)
    | succ k ih =>
      intro x f1 hk h1 hfr hfo hL7 hch hre hva
      refine sv_fr fun hin1 => ?_
      have hm1 : f1 (o + 1) = m := by rw [hfr (o + 1) (by omega) (by omega) (by omega) (by omega)]; exact hm
      have h16 : 0 ≤ x → sv_T X (sv_rm 3 0 0) MX5_reads (sv_Zm X 0 0 (sv_qi (fun a f' => a = (if sp_R m n = -1 then 1 else 0) ∧ sp_rq o m n f f') S r g)) 0 0 16 [some (sv_r o), some (sv_i n), some (sv_i x), none, none] [] S (f1) r g := by
        intro hx0
        obtain ⟨p, rfl⟩ := Int.eq_ofNat_of_zero_le hx0
        have hpL : p < L := by omega
        have hcp := hL3 p hpL
        have hnx : sp_bs m (sp_ch m n p) = sp_ch m n (p + 1) := rfl
        have h170 : ∀ (fx : sv_F) (rv : Int), (∀ x, x ≠ o → x ≠ o + 3 → x ≠ o + 4 → x ≠ o + 5 → fx x = f x) → (∀ j, j ≠ 4 → j ≠ 7 → fx o j = f o j) → fx o 7 = L → (∀ j : Nat, j < L → fx (o + 4) j = sp_ch m n j) → (∀ j : Nat, (p : Int) < (j : Int) → j < L → fx (o + 5) j = sp_R m (sp_ch m n j)) → rv = sp_R m (sp_ch m n p) → (sp_R m (sp_ch m n p) = -1 → fx o 4 = m (29 * sp_slot m (sp_ch m n p) + 1) ∧ ∀ i, 0 ≤ i → i < 6 + 2 * m (29 * sp_slot m (sp_ch m n p) + 1) → fx (o + 3) i = sp_V m (sp_ch m n p) i) → sv_T X (sv_rm 3 0 0) MX5_reads (sv_Zm X 0 0 (sv_qi (fun a f' => a = (if sp_R m n = -1 then 1 else 0) ∧ sp_rq o m n f f') S r g)) 0 0 170 [some (sv_r o), some (sv_i n), some (sv_i (p : Int)), none, none] [] S (sv_u fx (o + 5) p rv) r g := by
          intro fx rv g1 g2 g3 g4 g5 g6 g7
          refine sv_iinc dX5_reads_170 rfl (by decide) rfl ?_
          refine sv_goto (tgt := 12) dX5_reads_173 (by decide) ?_
          refine sv_wk (ih ((p : Int) + -1) (sv_u fx (o + 5) p rv) (by omega) (by omega) (fun x a1 a2 a3 a4 => by rw [sv_u_ne a4]; exact g1 x a1 a2 a3 a4) (fun j a1 a2 => by rw [sv_u_ne (by omega)]; exact g2 j a1 a2) (by rw [sv_u_ne (by omega)]; exact g3) (fun j hj => by rw [sv_u_ne (by omega)]; exact g4 j hj) (fun j a1 a2 => ?_) (fun j a1 a2 a3 => ?_)) (by simp [sv_sub, sv_ent, sv_lng]) rfl
          · by_cases e : j = p
            · subst e
              simp [sv_u, g6]
            · have e5 : ¬ ((j : Int) = (p : Int)) := by omega
              simp only [sv_u, e5, and_false, if_false]
              exact g5 j (by omega) a2
          · have e : j = p := by omega
            subst e
            obtain ⟨z1, z2⟩ := g7 a3
            refine ⟨by rw [sv_u_ne (by omega)]; exact z1, fun i b1 b2 => ?_⟩
            rw [sv_u_ne (by omega)]
            exact z2 i b1 b2
        have hci : sv_in (sp_ch m n p) := by rw [← hch p hpL]; exact hin1 _ _
        have h27 : (sp_slot m (sp_ch m n p)) ≠ -1 → (sp_bs m (sp_ch m n p) ≠ -1 → sp_R m (sp_bs m (sp_ch m n p)) = -1 ∧ f1 o 4 = m (29 * sp_slot m (sp_bs m (sp_ch m n p)) + 1) ∧ ∀ i, 0 ≤ i → i < 6 + 2 * m (29 * sp_slot m (sp_bs m (sp_ch m n p)) + 1) → f1 (o + 3) i = sp_V m (sp_bs m (sp_ch m n p)) i) → sv_T X (sv_rm 3 0 0) MX5_reads (sv_Zm X 0 0 (sv_qi (fun a f' => a = (if sp_R m n = -1 then 1 else 0) ∧ sp_rq o m n f f') S r g)) 0 0 74 [some (sv_r o), some (sv_i n), some (sv_i (p : Int)), some (sv_i (sp_slot m (sp_ch m n p))), none] [] S (f1) r g := by
          intro hsl hbase
          obtain ⟨hs0, hs1, hs2⟩ := sp_slot_in hsl
          have hfs := hw.frm hs0 hs1
          have hcc := hw.c
          have hmm := hw.many hs0 hs1
          have hpn := hw.num hs0 hs1
          have hVok : sp_ok (sp_V m (sp_ch m n p)) (6 + 2 * m (29 * (sp_slot m (sp_ch m n p)) + 1)) := sp_V_ok hw (sp_ch m n p + 1).toNat _ (by omega) hsl (fun hb => (hbase hb).1)
          have hRV : sp_R m (sp_ch m n p) = if sp_sm (sp_V m (sp_ch m n p)) (6 + 2 * m (29 * (sp_slot m (sp_ch m n p)) + 1)).toNat = m (29 * (sp_slot m (sp_ch m n p)) + 2) then -1 else 1 := by
            by_cases hb : sp_bs m (sp_ch m n p) = -1
            · exact (sp_V_whole hw hsl hb).2
            · exact (sp_V_diff hw hsl hb (hbase hb).1).2
          have h146 : ∀ fx : sv_F, fx (o + 1) = m → (∀ x, x ≠ o → x ≠ o + 3 → x ≠ o + 4 → x ≠ o + 5 → fx x = f x) → (∀ j, j ≠ 4 → j ≠ 7 → fx o j = f o j) → fx o 7 = L → fx o 4 = m (29 * (sp_slot m (sp_ch m n p)) + 1) → (∀ j : Nat, j < L → fx (o + 4) j = sp_ch m n j) → (∀ j : Nat, (p : Int) < (j : Int) → j < L → fx (o + 5) j = sp_R m (sp_ch m n j)) → (∀ j, 0 ≤ j → j < (6 + 2 * m (29 * (sp_slot m (sp_ch m n p)) + 1)) → fx (o + 3) j = sp_V m (sp_ch m n p) j) → sv_T X (sv_rm 3 0 0) MX5_reads (sv_Zm X 0 0 (sv_qi (fun a f' => a = (if sp_R m n = -1 then 1 else 0) ∧ sp_rq o m n f f') S r g)) 0 0 146 [some (sv_r o), some (sv_i n), some (sv_i (p : Int)), some (sv_i (sp_slot m (sp_ch m n p))), some (sv_i (m (29 * (sp_slot m (sp_ch m n p)) + 4)))] [] S (fx) r g := by
            intro fx k1 k2 k3 k4 k5 k6 k7 hVx
            refine sv_fr fun hin2 => ?_
            have hokx : sp_ok (fx (o + 3)) (6 + 2 * m (29 * (sp_slot m (sp_ch m n p)) + 1)) := fun j a1 a2 => by rw [hVx j a1 a2]; exact hVok j a1 a2
            have hsum := sp_sm_congr hVx
            refine sv_aload_n (i := 0) dX5_reads_146 rfl rfl ?_
            refine sv_getR (kz := 6) flX5_22 dX5_reads_147 rfl rfl hsh.lt hsh.k hsh.r5 ?_
            refine sv_iload_n (i := 2) dX5_reads_150 rfl rfl ?_
            refine sv_aload_n (i := 0) dX5_reads_151 rfl rfl ?_
            refine sv_vp0 (As := []) clX5_73 dX5_reads_152 ⟨_, rfl, rfl⟩ (by decide) rfl (Nat.le_of_ble_eq_true rfl) (by decide) (by decide) hsh.lt hsh.k (c_X5_sumNow (v := fx (o + 3)) (fm := m (29 * (sp_slot m (sp_ch m n p)) + 1)) hsh rfl k5 hfs hokx) ?_
            refine sv_aload_n (i := 0) dX5_reads_155 rfl rfl ?_
            refine sv_iload_n (i := 3) dX5_reads_156 rfl rfl ?_
            refine sv_iconst dX5_reads_157 ?_
            refine sv_vp0 (As := [_, _]) clX5_38 dX5_reads_158 ⟨_, rfl, rfl⟩ (by decide) rfl (Nat.le_of_ble_eq_true rfl) (by decide) (by decide) hsh.lt hsh.k (c_X5_of (m := m) hsh k1 _ _ (by omega)) ?_
            have hmi : sv_in (m (29 * (sp_slot m (sp_ch m n p)) + 2)) := by rw [← k1]; exact hin2 _ _
            have hsi := sp_sm_in (fx (o + 3)) (6 + 2 * m (29 * (sp_slot m (sp_ch m n p)) + 1)).toNat
            refine sv_icmp_ne (tgt := 168) dX5_reads_161 (by decide) (by omega) hmi (fun h_161 => ?_) (fun h_161 => ?_)
            · refine sv_iconst dX5_reads_168 ?_
              refine sv_iast dX5_reads_169 hsh.l5 hsh.s5 (by omega) (by omega) ?_
              exact sv_wk (h170 fx _ k2 k3 k4 k6 k7 (by rw [hRV, ← hsum]; simp [h_161]) (fun hR => ⟨k5, hVx⟩)) (by simp [sv_sub, sv_ent, sv_lng]) rfl
            · refine sv_iconst dX5_reads_164 ?_
              refine sv_goto (tgt := 169) dX5_reads_165 (by decide) ?_
              refine sv_iast dX5_reads_169 hsh.l5 hsh.s5 (by omega) (by omega) ?_
              exact sv_wk (h170 fx _ k2 k3 k4 k6 k7 (by rw [hRV, ← hsum]; simp [h_161]) (fun hR => ⟨k5, hVx⟩)) (by simp [sv_sub, sv_ent, sv_lng]) rfl
          have hle : ∀ fm : sv_F, fm (o + 1) = m → sv_T X (sv_rm 3 0 0) MX5_reads (sv_Zm X 0 0 (sv_qi (fun a f' => a = (if sp_R m n = -1 then 1 else 0) ∧ sp_rq o m n f f') S r g)) 0 0 146 [some (sv_r o), some (sv_i n), some (sv_i (p : Int)), some (sv_i (sp_slot m (sp_ch m n p))), some (sv_i (m (29 * (sp_slot m (sp_ch m n p)) + 4)))] [] S (sv_row fm (o + 3) (sp_en (fm (o + 3)) (fun i => m (29 * (sp_slot m (sp_ch m n p)) + (5 + i))) (fun i => m (29 * (sp_slot m (sp_ch m n p)) + (17 + i))) (m (29 * (sp_slot m (sp_ch m n p)) + 4)).toNat)) r g → ∀ (kk : Nat) (i : Int), m (29 * (sp_slot m (sp_ch m n p)) + 4) - i < (kk : Int) → (0 ≤ i ∧ i ≤ m (29 * (sp_slot m (sp_ch m n p)) + 4)) → sv_T X (sv_rm 3 0 0) MX5_reads (sv_Zm X 0 0 (sv_qi (fun a f' => a = (if sp_R m n = -1 then 1 else 0) ∧ sp_rq o m n f f') S r g)) 0 0 105 [some (sv_r o), some (sv_i n), some (sv_i (p : Int)), some (sv_i (sp_slot m (sp_ch m n p))), some (sv_i i)] [] S (sv_row fm (o + 3) (sp_en (fm (o + 3)) (fun i => m (29 * (sp_slot m (sp_ch m n p)) + (5 + i))) (fun i => m (29 * (sp_slot m (sp_ch m n p)) + (17 + i))) i.toNat)) r g := by
            intro fm km hfin kk
            induction kk with
            | zero =>
              intro i hk2 h9
              exact absurd hk2 (by omega)
            | succ kk ih2 =>
              intro i hk2 h9
              refine sv_iload dX5_reads_105 rfl ?_
              refine sv_aload_n (i := 0) dX5_reads_107 rfl rfl ?_
              refine sv_iload_n (i := 3) dX5_reads_108 rfl rfl ?_
              refine sv_iconst dX5_reads_109 ?_
              refine sv_vp0 (As := [_, _]) clX5_38 dX5_reads_110 ⟨_, rfl, rfl⟩ (by decide) rfl (Nat.le_of_ble_eq_true rfl) (by decide) (by decide) hsh.lt hsh.k (c_X5_of (m := m) hsh (by rw [sv_row_ne (by omega)]; exact km) _ _ (by omega)) ?_
              have hmm := hw.many hs0 hs1
              refine sv_icmp_ge (tgt := 146) dX5_reads_113 (by decide) (by first | omega | exact hin _ _ | decide | (simp [sv_u, sv_row]; omega) | (simp [sv_u, sv_row]; exact hin _ _) | exact hin1 _ _ | (simp [sv_u, sv_row]; exact hin1 _ _)) (by first | omega | exact hin _ _ | decide | (simp [sv_u, sv_row]; omega) | (simp [sv_u, sv_row]; exact hin _ _) | exact hin1 _ _ | (simp [sv_u, sv_row]; exact hin1 _ _)) (fun h_113 => ?_) (fun h_113 => ?_)
              · have hie : i = m (29 * (sp_slot m (sp_ch m n p)) + 4) := by omega
                subst hie
                exact hfin
              · have hme := hw.ent hs0 hs1 h9.1 h_113
                refine sv_aload_n (i := 0) dX5_reads_116 rfl rfl ?_
                refine sv_getR (kz := 3) flX5_16 dX5_reads_117 rfl rfl hsh.lt hsh.k hsh.r3 ?_
                refine sv_aload_n (i := 0) dX5_reads_120 rfl rfl ?_
                refine sv_iload_n (i := 3) dX5_reads_121 rfl rfl ?_
                refine sv_iconst dX5_reads_122 ?_
                refine sv_iload dX5_reads_123 rfl ?_
                refine sv_iadd dX5_reads_125 ?_
                refine sv_vp0 (As := [_, _]) clX5_38 dX5_reads_126 ⟨_, rfl, rfl⟩ (by decide) rfl (Nat.le_of_ble_eq_true rfl) (by decide) (by decide) hsh.lt hsh.k (c_X5_of (m := m) hsh (by rw [sv_row_ne (by omega)]; exact km) _ _ (by omega)) ?_
                refine sv_aload_n (i := 0) dX5_reads_129 rfl rfl ?_
                refine sv_iload_n (i := 3) dX5_reads_130 rfl rfl ?_
                refine sv_bipush dX5_reads_131 (by decide) ?_
                refine sv_iload dX5_reads_133 rfl ?_
                refine sv_iadd dX5_reads_135 ?_
                refine sv_vp0 (As := [_, _]) clX5_38 dX5_reads_136 ⟨_, rfl, rfl⟩ (by decide) rfl (Nat.le_of_ble_eq_true rfl) (by decide) (by decide) hsh.lt hsh.k (c_X5_of (m := m) hsh (by rw [sv_row_ne (by omega)]; exact km) _ _ (by omega)) ?_
                refine sv_iast dX5_reads_139 hsh.l3 hsh.s3 (by omega) (by omega) ?_
                refine sv_iinc dX5_reads_140 rfl (by decide) rfl ?_
                refine sv_goto (tgt := 105) dX5_reads_143 (by decide) ?_
                refine sv_cast (ih2 (i + 1) (by omega) (by omega)) rfl rfl rfl rfl rfl ?_
                rw [sp_en_s h9.1]
                funext a b
                by_cases e1 : a = o + 3
                · subst e1
                  simp [sv_u, sv_row]
                · simp [sv_u, sv_row, e1]
          have h92 : ∀ fx : sv_F, fx (o + 1) = m → (1 ≤ fx o 4 ∧ fx o 4 ≤ m (29 * (sp_slot m (sp_ch m n p)) + 1)) → (fx o 4 < m (29 * (sp_slot m (sp_ch m n p)) + 1) → sp_ok (fx (o + 3)) (6 + 2 * fx o 4)) → (∀ x, x ≠ o → x ≠ o + 3 → x ≠ o + 4 → x ≠ o + 5 → fx x = f x) → (∀ j, j ≠ 4 → j ≠ 7 → fx o j = f o j) → fx o 7 = L → (∀ j : Nat, j < L → fx (o + 4) j = sp_ch m n j) → (∀ j : Nat, (p : Int) < (j : Int) → j < L → fx (o + 5) j = sp_R m (sp_ch m n j)) → (∀ j, 0 ≤ j → j < (6 + 2 * m (29 * (sp_slot m (sp_ch m n p)) + 1)) → sp_en (sp_rz (fx (o + 3)) (fx o 4) (m (29 * (sp_slot m (sp_ch m n p)) + 1))) (fun i => m (29 * (sp_slot m (sp_ch m n p)) + (5 + i))) (fun i => m (29 * (sp_slot m (sp_ch m n p)) + (17 + i))) (m (29 * (sp_slot m (sp_ch m n p)) + 4)).toNat j = sp_V m (sp_ch m n p) j) → sv_T X (sv_rm 3 0 0) MX5_reads (sv_Zm X 0 0 (sv_qi (fun a f' => a = (if sp_R m n = -1 then 1 else 0) ∧ sp_rq o m n f f') S r g)) 0 0 92 [some (sv_r o), some (sv_i n), some (sv_i (p : Int)), some (sv_i (sp_slot m (sp_ch m n p))), none] [] S (fx) r g := by
            intro fx q1 q2' q3 q4 q5 q6 q7 q8 q9
            have q2 : 1 ≤ fx o 4 ∧ fx o 4 ≤ 3 := by omega
            refine sv_aload_n (i := 0) dX5_reads_92 rfl rfl ?_
            refine sv_aload_n (i := 0) dX5_reads_93 rfl rfl ?_
            refine sv_iload_n (i := 3) dX5_reads_94 rfl rfl ?_
            refine sv_iconst dX5_reads_95 ?_
            refine sv_vp0 (As := [_, _]) clX5_38 dX5_reads_96 ⟨_, rfl, rfl⟩ (by decide) rfl (Nat.le_of_ble_eq_true rfl) (by decide) (by decide) hsh.lt hsh.k (c_X5_of (m := m) hsh q1 _ _ (by omega)) ?_
            refine sv_vv0 (As := [_]) clX5_70 dX5_reads_99 ⟨_, rfl, rfl⟩ (by decide) rfl (Nat.le_of_ble_eq_true rfl) (by decide) (by decide) hsh.lt hsh.k (c_X5_raisesTo hsh _ (by omega) (by omega) q2 q3) (fun f2 hf2 => ?_)
            subst hf2
            refine sv_iconst dX5_reads_102 ?_
            refine sv_istore dX5_reads_103 (by decide) rfl ?_
            refine sv_cast (hle (sv_u (sv_row fx (o + 3) (sp_rz (fx (o + 3)) (fx o 4) (m (29 * (sp_slot m (sp_ch m n p)) + 1)))) o 4 (max (fx o 4) (m (29 * (sp_slot m (sp_ch m n p)) + 1)))) (by rw [sv_u_ne (by omega), sv_row_ne (by omega)]; exact q1) (h146 _ ?_ ?_ ?_ ?_ ?_ ?_ ?_ ?_) 13 0 (by omega) (by omega)) rfl rfl rfl rfl rfl ?_
            · rw [sv_row_ne (by omega), sv_u_ne (by omega), sv_row_ne (by omega)]; exact q1
            · intro x a1 a2 a3 a4
              rw [sv_row_ne a2, sv_u_ne a1, sv_row_ne a2]; exact q4 x a1 a2 a3 a4
            · intro j a1 a2
              simp [sv_row, sv_u, a1]; exact q5 j a1 a2
            · simp [sv_row, sv_u]; exact q6
            · simp [sv_row, sv_u]; omega
            · intro j hj
              simp [sv_row, sv_u]; exact q7 j hj
            · intro j a1 a2
              simp [sv_row, sv_u]; exact q8 j a1 a2
            · intro j a1 a2
              rw [sv_row_eq]
              have e9 : sv_u (sv_row fx (o + 3) (sp_rz (fx (o + 3)) (fx o 4) (m (29 * (sp_slot m (sp_ch m n p)) + 1)))) o 4 (max (fx o 4) (m (29 * (sp_slot m (sp_ch m n p)) + 1))) (o + 3) = sp_rz (fx (o + 3)) (fx o 4) (m (29 * (sp_slot m (sp_ch m n p)) + 1)) := by
                rw [sv_u_ne (by omega), sv_row_eq]
              rw [e9]
              exact q9 j a1 a2
            · exact sv_row_id
          refine sv_aload_n (i := 0) dX5_reads_74 rfl rfl ?_
          refine sv_iload_n (i := 3) dX5_reads_75 rfl rfl ?_
          refine sv_vp0 (As := [_]) clX5_66 dX5_reads_76 ⟨_, rfl, rfl⟩ (by decide) rfl (Nat.le_of_ble_eq_true rfl) (by decide) (by decide) hsh.lt hsh.k (c_X5_isWhole (m := m) hsh hm1 _ (by omega)) ?_
          refine sv_bif_eq (tgt := 92) dX5_reads_79 (by decide) (fun h_79 => ?_) (fun h_79 => ?_)
          · have hbn : sp_bs m (sp_ch m n p) ≠ -1 := by unfold sp_bs; rw [if_neg hsl]; exact h_79
            obtain ⟨z1, z2, z3⟩ := hbase hbn
            have hbsl := sp_R_slot hw (by omega : sp_R m (sp_bs m (sp_ch m n p)) ≠ 0)
            obtain ⟨b0, b1, b2⟩ := sp_slot_in hbsl
            have hbf := hw.frm b0 b1
            have hff := hw.fms hs0 hs1 b0 b1 (by rw [b2]; unfold sp_bs; rw [if_neg hsl])
            have hok := sp_V_ok' hw z1
            refine h92 f1 hm1 (by omega) (fun _ => ?_) hfr hfo hL7 hch hre (fun j a1 a2 => ?_)
            · rw [z2]
              intro j a1 a2
              rw [z3 j a1 a2]
              exact hok j a1 a2
            · rw [(sp_V_diff hw hsl hbn z1).1, z2]
              exact sp_en_congr (sp_rz_congr hbf.1 hff hfs.2 z3) _ j a1 a2
          · refine sv_aload_n (i := 0) dX5_reads_82 rfl rfl ?_
            refine sv_aload_n (i := 0) dX5_reads_83 rfl rfl ?_
            refine sv_iload_n (i := 3) dX5_reads_84 rfl rfl ?_
            refine sv_iconst dX5_reads_85 ?_
            refine sv_vp0 (As := [_, _]) clX5_38 dX5_reads_86 ⟨_, rfl, rfl⟩ (by decide) rfl (Nat.le_of_ble_eq_true rfl) (by decide) (by decide) hsh.lt hsh.k (c_X5_of (m := m) hsh hm1 _ _ (by omega)) ?_
            refine sv_putI (kz := 4) flX5_46 dX5_reads_89 (Or.inl rfl) rfl rfl hsh.lt hsh.k (by first | omega | exact hin _ _ | decide | (simp [sv_u, sv_row]; omega) | (simp [sv_u, sv_row]; exact hin _ _) | exact hin1 _ _ | (simp [sv_u, sv_row]; exact hin1 _ _)) ?_
            refine h92 (sv_u f1 o 4 (m (29 * (sp_slot m (sp_ch m n p)) + 1))) (by rw [sv_u_ne (by omega)]; exact hm1) (by simp [sv_u]; omega) (fun h => by simp [sv_u] at h) (fun x a1 a2 a3 a4 => by rw [sv_u_ne a1]; exact hfr x a1 a2 a3 a4) (fun j a1 a2 => by simp [sv_u, a1]; exact hfo j a1 a2) (by simp [sv_u]; exact hL7) (fun j hj => by rw [sv_u_ne (by omega)]; exact hch j hj) (fun j a1 a2 => by rw [sv_u_ne (by omega)]; exact hre j a1 a2) (fun j a1 a2 => ?_)
            have hbn : sp_bs m (sp_ch m n p) = -1 := by unfold sp_bs; rw [if_neg hsl]; exact h_79
            obtain ⟨w1, w2⟩ := hw.whole hs0 hs1 h_79
            rw [(sp_V_whole hw hsl hbn).1, sp_en_all _ (fun i c1 c2 => w2 i c1 (by omega)) j a1 (by omega), sp_en_all _ (fun i c1 c2 => w2 i c1 (by omega)) j a1 (by omega)]
        refine sv_aload_n (i := 0) dX5_reads_16 rfl rfl ?_
        refine sv_aload_n (i := 0) dX5_reads_17 rfl rfl ?_
        refine sv_getR (kz := 5) flX5_19 dX5_reads_18 rfl rfl hsh.lt hsh.k hsh.r4 ?_
        refine sv_iload_n (i := 2) dX5_reads_21 rfl rfl ?_
        refine sv_iald dX5_reads_22 hsh.l4 hsh.s4 (by omega) ?_
        rw [hch p hpL]
        refine sv_vp0 (As := [_]) clX5_59 dX5_reads_23 ⟨_, rfl, rfl⟩ (by decide) rfl (Nat.le_of_ble_eq_true rfl) (by decide) (by decide) hsh.lt hsh.k (c_X5_slotOf (m := m) hsh hm1 _ hci hw.c) ?_
        refine sv_istore_n (i := 3) dX5_reads_26 rfl (by decide) rfl ?_
        have hst := sp_slot_spec m (sp_ch m n p)
        refine sv_iload_n (i := 3) dX5_reads_27 rfl rfl ?_
        refine sv_iconst dX5_reads_28 ?_
        refine sv_icmp_ne (tgt := 42) dX5_reads_29 (by decide) (by first | omega | exact hin _ _ | decide | (simp [sv_u, sv_row]; omega) | (simp [sv_u, sv_row]; exact hin _ _) | exact hin1 _ _ | (simp [sv_u, sv_row]; exact hin1 _ _)) (by first | omega | exact hin _ _ | decide | (simp [sv_u, sv_row]; omega) | (simp [sv_u, sv_row]; exact hin _ _) | exact hin1 _ _ | (simp [sv_u, sv_row]; exact hin1 _ _)) (fun h_29 => ?_) (fun h_29 => ?_)
        · refine sv_iload_n (i := 2) dX5_reads_42 rfl rfl ?_
          refine sv_aload_n (i := 0) dX5_reads_43 rfl rfl ?_
          refine sv_getI (kz := 7) flX5_56 dX5_reads_44 rfl rfl hsh.lt hsh.k ?_
          refine sv_iconst dX5_reads_47 ?_
          refine sv_isub dX5_reads_48 ?_
          refine sv_icmp_ge (tgt := 74) dX5_reads_49 (by decide) (by first | omega | exact hin _ _ | decide | (simp [sv_u, sv_row]; omega) | (simp [sv_u, sv_row]; exact hin _ _) | exact hin1 _ _ | (simp [sv_u, sv_row]; exact hin1 _ _)) (by first | omega | exact hin _ _ | decide | (simp [sv_u, sv_row]; omega) | (simp [sv_u, sv_row]; exact hin _ _) | exact hin1 _ _ | (simp [sv_u, sv_row]; exact hin1 _ _)) (fun h_49 => ?_) (fun h_49 => ?_)
          · refine sv_wk (h27 (by assumption) (fun hb => ?_)) (by simp [sv_sub, sv_ent, sv_lng]) rfl
            first
              | (exfalso
                 have : p + 1 = L := by omega
                 rw [hnx, this] at hb
                 exact hb hL4)
              | (have hR1 : sp_R m (sp_ch m n (p + 1)) = -1 := by rw [← hr1]; assumption
                 rw [hnx]
                 exact ⟨hR1, hva (p + 1) (by omega) (by omega) hR1⟩)
          · refine sv_aload_n (i := 0) dX5_reads_52 rfl rfl ?_
            refine sv_getR (kz := 6) flX5_22 dX5_reads_53 rfl rfl hsh.lt hsh.k hsh.r5 ?_
            refine sv_iload_n (i := 2) dX5_reads_56 rfl rfl ?_
            refine sv_iconst dX5_reads_57 ?_
            refine sv_iadd dX5_reads_58 ?_
            refine sv_iald dX5_reads_59 hsh.l5 hsh.s5 (by omega) ?_
            refine sv_iconst dX5_reads_60 ?_
            have hr1 : f1 (o + 5) ((p : Int) + 1) = sp_R m (sp_ch m n (p + 1)) := by
              have := hre (p + 1) (by omega) (by omega)
              simpa using this
            refine sv_icmp_eq (tgt := 74) dX5_reads_61 (by decide) (by first | omega | exact hin _ _ | decide | (simp [sv_u, sv_row]; omega) | (simp [sv_u, sv_row]; exact hin _ _) | exact hin1 _ _ | (simp [sv_u, sv_row]; exact hin1 _ _)) (by first | omega | exact hin _ _ | decide | (simp [sv_u, sv_row]; omega) | (simp [sv_u, sv_row]; exact hin _ _) | exact hin1 _ _ | (simp [sv_u, sv_row]; exact hin1 _ _)) (fun h_61 => ?_) (fun h_61 => ?_)
            · refine sv_wk (h27 (by assumption) (fun hb => ?_)) (by simp [sv_sub, sv_ent, sv_lng]) rfl
              first
                | (exfalso
                   have : p + 1 = L := by omega
                   rw [hnx, this] at hb
                   exact hb hL4)
                | (have hR1 : sp_R m (sp_ch m n (p + 1)) = -1 := by rw [← hr1]; assumption
                   rw [hnx]
                   exact ⟨hR1, hva (p + 1) (by omega) (by omega) hR1⟩)
            · refine sv_aload_n (i := 0) dX5_reads_64 rfl rfl ?_
              refine sv_getR (kz := 6) flX5_22 dX5_reads_65 rfl rfl hsh.lt hsh.k hsh.r5 ?_
              refine sv_iload_n (i := 2) dX5_reads_68 rfl rfl ?_
              refine sv_iconst dX5_reads_69 ?_
              refine sv_iast dX5_reads_70 hsh.l5 hsh.s5 (by omega) (by first | omega | exact hin _ _ | decide | (simp [sv_u, sv_row]; omega) | (simp [sv_u, sv_row]; exact hin _ _) | exact hin1 _ _ | (simp [sv_u, sv_row]; exact hin1 _ _)) ?_
              refine sv_goto (tgt := 170) dX5_reads_71 (by decide) ?_
              first
                | exact sv_wk (h170 f1 0 hfr hfo hL7 hch hre (sp_R_lost hw (by assumption)).symm (fun hR => by rw [sp_R_lost hw (by assumption)] at hR; omega)) (by simp [sv_sub, sv_ent, sv_lng]) rfl
                | (have hR1 : sp_R m (sp_bs m (sp_ch m n p)) ≠ -1 := by rw [hnx, ← hr1]; assumption
                   have hbn : sp_bs m (sp_ch m n p) ≠ -1 := by rw [hnx]; exact hL3 (p + 1) (by omega)
                   have hRp := sp_R_bad hw (by assumption) hbn hR1
                   exact sv_wk (h170 f1 2 hfr hfo hL7 hch hre hRp.symm (fun hR => by rw [hRp] at hR; omega)) (by simp [sv_sub, sv_ent, sv_lng]) rfl)
        · refine sv_aload_n (i := 0) dX5_reads_32 rfl rfl ?_
          refine sv_getR (kz := 6) flX5_22 dX5_reads_33 rfl rfl hsh.lt hsh.k hsh.r5 ?_
          refine sv_iload_n (i := 2) dX5_reads_36 rfl rfl ?_
          refine sv_iconst dX5_reads_37 ?_
          refine sv_iast dX5_reads_38 hsh.l5 hsh.s5 (by omega) (by first | omega | exact hin _ _ | decide | (simp [sv_u, sv_row]; omega) | (simp [sv_u, sv_row]; exact hin _ _) | exact hin1 _ _ | (simp [sv_u, sv_row]; exact hin1 _ _)) ?_
          refine sv_goto (tgt := 170) dX5_reads_39 (by decide) ?_
          first
            | exact sv_wk (h170 f1 0 hfr hfo hL7 hch hre (sp_R_lost hw (by assumption)).symm (fun hR => by rw [sp_R_lost hw (by assumption)] at hR; omega)) (by simp [sv_sub, sv_ent, sv_lng]) rfl
            | (have hR1 : sp_R m (sp_bs m (sp_ch m n p)) ≠ -1 := by rw [hnx, ← hr1]; assumption
               have hbn : sp_bs m (sp_ch m n p) ≠ -1 := by rw [hnx]; exact hL3 (p + 1) (by omega)
               have hRp := sp_R_bad hw (by assumption) hbn hR1
               exact sv_wk (h170 f1 2 hfr hfo hL7 hch hre hRp.symm (fun hR => by rw [hRp] at hR; omega)) (by simp [sv_sub, sv_ent, sv_lng]) rfl)
      refine sv_iload_n (i := 2) dX5_reads_12 rfl rfl ?_
      refine sv_if_lt (tgt := 176) dX5_reads_13 (by decide) (by first | omega | exact hin _ _ | decide | (simp [sv_u, sv_row]; omega) | (simp [sv_u, sv_row]; exact hin _ _) | exact hin1 _ _ | (simp [sv_u, sv_row]; exact hin1 _ _)) (fun h_13 => ?_) (fun h_13 => ?_)
      · refine sv_aload_n (i := 0) dX5_reads_176 rfl rfl ?_
        refine sv_getR (kz := 6) flX5_22 dX5_reads_177 rfl rfl hsh.lt hsh.k hsh.r5 ?_
        refine sv_iconst dX5_reads_180 ?_
        refine sv_iald dX5_reads_181 hsh.l5 hsh.s5 (by omega) ?_
        refine sv_iconst dX5_reads_182 ?_
        refine sv_icmp_ne (tgt := 190) dX5_reads_183 (by decide) (by first | omega | exact hin _ _ | decide | (simp [sv_u, sv_row]; omega) | (simp [sv_u, sv_row]; exact hin _ _) | exact hin1 _ _ | (simp [sv_u, sv_row]; exact hin1 _ _)) (by first | omega | exact hin _ _ | decide | (simp [sv_u, sv_row]; omega) | (simp [sv_u, sv_row]; exact hin _ _) | exact hin1 _ _ | (simp [sv_u, sv_row]; exact hin1 _ _)) (fun h_183 => ?_) (fun h_183 => ?_)
        · refine sv_iconst dX5_reads_190 ?_
          refine sv_zreturn dX5_reads_191 rfl (by first | exact sv_b01 _ | decide) ?_
          have hR0 := hre 0 (by omega) (by omega)
          have hc0 : sp_ch m n 0 = n := rfl
          rw [hc0] at hR0
          have hR0' : f1 (o + 5) 0 = sp_R m n := hR0
          refine ⟨_, rfl, rfl, rfl, rfl, by rw [← hR0']; simp [h_183], hfr, hfo, fun hR => ?_, L, hL1, hL2, hL3, hL4, hL7, fun k hk => ⟨hch k hk, hre k (by omega) hk⟩⟩
          have := hva 0 (by omega) (by omega)
          rw [hc0] at this
          exact this hR
        · refine sv_iconst dX5_reads_186 ?_
          refine sv_goto (tgt := 191) dX5_reads_187 (by decide) ?_
          refine sv_zreturn dX5_reads_191 rfl (by first | exact sv_b01 _ | decide) ?_
          have hR0 := hre 0 (by omega) (by omega)
          have hc0 : sp_ch m n 0 = n := rfl
          rw [hc0] at hR0
          have hR0' : f1 (o + 5) 0 = sp_R m n := hR0
          refine ⟨_, rfl, rfl, rfl, rfl, by rw [← hR0']; simp [h_183], hfr, hfo, fun hR => ?_, L, hL1, hL2, hL3, hL4, hL7, fun k hk => ⟨hch k hk, hre k (by omega) hk⟩⟩
          have := hva 0 (by omega) (by omega)
          rw [hc0] at this
          exact this hR
      · exact h16 h_13
  refine sv_aload_n (i := 0) dX5_reads_5 rfl rfl ?_
  refine sv_getI (kz := 7) flX5_56 dX5_reads_6 rfl rfl hsh.lt hsh.k ?_
  refine sv_iconst dX5_reads_9 ?_
  refine sv_isub dX5_reads_10 ?_
  refine sv_istore_n (i := 2) dX5_reads_11 rfl (by decide) rfl ?_
  rw [e2]
  refine sv_wk (lp 30 ((L : Int) - 1) f0 (by omega) (by omega) e0 e1 e2 e3 (fun j a1 a2 => by omega) (fun j a1 a2 => by omega)) (by simp [sv_sub, sv_ent, sv_lng]) rfl
end
section
/-- the game, the origin and the settings are sound -/
def sp_wg (m : Int → Int) : Prop := (1 ≤ m 582 ∧ m 582 ≤ 3) ∧ sp_ok (fun j => m (583 + j)) (6 + 2 * m 582) ∧ (m 595 = -1 ∨ (0 ≤ m 595 ∧ sp_slot m (m 595) ≠ -1 ∧ m (29 * sp_slot m (m 595) + 1) ≤ m 582)) ∧ (1 ≤ m 596 ∧ m 596 ≤ 8) ∧ (0 ≤ m 597 ∧ m 597 ≤ 1)
section SPWG
variable {m : Int → Int}
theorem sp_wg.f (h : sp_wg m) : 1 ≤ m 582 ∧ m 582 ≤ 3 := h.1
theorem sp_wg.v (h : sp_wg m) : sp_ok (fun j => m (583 + j)) (6 + 2 * m 582) := h.2.1
theorem sp_wg.o (h : sp_wg m) : m 595 = -1 ∨ (0 ≤ m 595 ∧ sp_slot m (m 595) ≠ -1 ∧ m (29 * sp_slot m (m 595) + 1) ≤ m 582) := h.2.2.1
theorem sp_wg.l (h : sp_wg m) : 1 ≤ m 596 ∧ m 596 ≤ 8 := h.2.2.2.1
theorem sp_wg.r (h : sp_wg m) : 0 ≤ m 597 ∧ m 597 ≤ 1 := h.2.2.2.2
end SPWG
/-- only what is worked at has changed -/
def sp_sq (o : Nat) (f f' : sv_F) : Prop := (∀ x, x ≠ o → x ≠ o + 3 → x ≠ o + 4 → x ≠ o + 5 → x ≠ o + 6 → x ≠ o + 8 → x ≠ o + 9 → f' x = f x) ∧ f' o 2 = f o 2 ∧ f' o 10 = f o 10
section SPSQ
variable {o : Nat} {f f' f2 : sv_F}
theorem sp_sq.rf : sp_sq o f f := ⟨fun _ _ _ _ _ _ _ _ => rfl, rfl, rfl⟩
theorem sp_sq.trans (h : sp_sq o f f') (h2 : sp_sq o f' f2) : sp_sq o f f2 := ⟨fun x a b c d e g i => (h2.1 x a b c d e g i).trans (h.1 x a b c d e g i), h2.2.1.trans h.2.1, h2.2.2.trans h.2.2⟩
theorem sp_sq.m (h : sp_sq o f f') : f' (o + 1) = f (o + 1) := h.1 (o + 1) (by omega) (by omega) (by omega) (by omega) (by omega) (by omega) (by omega)
theorem sp_sq.p (h : sp_sq o f f') : f' (o + 2) = f (o + 2) := h.1 (o + 2) (by omega) (by omega) (by omega) (by omega) (by omega) (by omega) (by omega)
theorem sp_sq.t (h : sp_sq o f f') : f' (o + 7) = f (o + 7) := h.1 (o + 7) (by omega) (by omega) (by omega) (by omega) (by omega) (by omega) (by omega)
theorem sp_rq.sq {m : Int → Int} {n : Int} (h : sp_rq o m n f f') : sp_sq o f f' := ⟨fun x a b c d _ _ _ => h.1 x a b c d, h.2.1 2 (by omega) (by omega), h.2.1 10 (by omega) (by omega)⟩
theorem sp_rq.m {m : Int → Int} {n : Int} (h : sp_rq o m n f f') : f' (o + 1) = f (o + 1) := h.1 (o + 1) (by omega) (by omega) (by omega) (by omega)
theorem sp_rq.w {m : Int → Int} {n : Int} (h : sp_rq o m n f f') : f' (o + 6) = f (o + 6) := h.1 (o + 6) (by omega) (by omega) (by omega) (by omega)
theorem sp_rq.k {m : Int → Int} {n : Int} (h : sp_rq o m n f f') : f' (o + 9) = f (o + 9) := h.1 (o + 9) (by omega) (by omega) (by omega) (by omega)
end SPSQ
/-- how many links a chain has -/
def sp_lf (m : Int → Int) : Nat → Int → Int
  | 0, _ => 0
  | k + 1, n => if n = -1 then 0 else 1 + sp_lf m k (sp_bs m n)
def sp_lk (m : Int → Int) (n : Int) : Int := sp_lf m 30 n
theorem sp_ch_s (m : Int → Int) (n : Int) : ∀ k : Nat, sp_ch m n (k + 1) = sp_ch m (sp_bs m n) k := by
  intro k
  induction k with
  | zero => rfl
  | succ k ih =>
    show sp_bs m (sp_ch m n (k + 1)) = sp_bs m (sp_ch m (sp_bs m n) k)
    rw [ih]
theorem sp_lf_eq (m : Int → Int) : ∀ (q L : Nat) (n : Int), L < q → (∀ k : Nat, k < L → sp_ch m n k ≠ -1) → sp_ch m n L = -1 → sp_lf m q n = L := by
  intro q
  induction q with
  | zero => intro L n h; omega
  | succ q ih =>
    intro L n h h1 h2
    cases L with
    | zero =>
      have : n = -1 := h2
      show (if n = -1 then (0 : Int) else 1 + sp_lf m q (sp_bs m n)) = _
      rw [if_pos this]
      rfl
    | succ L =>
      have : n ≠ -1 := h1 0 (by omega)
      show (if n = -1 then (0 : Int) else 1 + sp_lf m q (sp_bs m n)) = _
      rw [if_neg this, ih L (sp_bs m n) (by omega) (fun k hk => by rw [← sp_ch_s]; exact h1 (k + 1) (by omega)) (by rw [← sp_ch_s]; exact h2)]
      omega
theorem sp_lk_eq {m : Int → Int} {L : Nat} {n : Int} (h : L ≤ 21) (h1 : ∀ k : Nat, k < L → sp_ch m n k ≠ -1) (h2 : sp_ch m n L = -1) : sp_lk m n = L := sp_lf_eq m 30 L n (by omega) h1 h2
theorem sp_rq.l {o : Nat} {f f' : sv_F} {m : Int → Int} {n : Int} (h : sp_rq o m n f f') : f' o 7 = sp_lk m n ∧ 1 ≤ sp_lk m n ∧ sp_lk m n ≤ 21 := by
  obtain ⟨-, -, -, L, h1, h2, h3, h4, h5, -⟩ := h
  rw [sp_lk_eq h2 h3 h4, h5]
  omega
/-- sums, and the greatest -/
def sp_cnt (q : Int → Int) : Nat → Int
  | 0 => 0
  | k + 1 => sp_cnt q k + q k
theorem sp_cnt_s {q : Int → Int} {i : Int} (h : 0 ≤ i) : sp_cnt q (i + 1).toNat = sp_cnt q i.toNat + q i := by
  rw [show (i + 1).toNat = i.toNat + 1 by omega]
  show sp_cnt q i.toNat + q (i.toNat : Int) = _
  rw [show ((i.toNat : Nat) : Int) = i by omega]
theorem sp_cnt_in {q : Int → Int} {b : Int} : ∀ k : Nat, (∀ i : Int, 0 ≤ i → i < k → 0 ≤ q i ∧ q i ≤ b) → 0 ≤ sp_cnt q k ∧ sp_cnt q k ≤ b * k := by
  intro k
  induction k with
  | zero => intro _; simp [sp_cnt]
  | succ k ih =>
    intro h
    have h1 := ih (fun i a c => h i a (by omega))
    have h2 := h k (by omega) (by omega)
    show 0 ≤ sp_cnt q k + q k ∧ sp_cnt q k + q k ≤ b * ((k + 1 : Nat) : Int)
    rw [show ((k + 1 : Nat) : Int) = (k : Int) + 1 by omega, Int.mul_add, Int.mul_one]
    omega
theorem sp_cnt_congr {q q' : Int → Int} {n : Int} (h : ∀ i, 0 ≤ i → i < n → q i = q' i) : sp_cnt q n.toNat = sp_cnt q' n.toNat := by
  have : ∀ k : Nat, (k : Int) ≤ n → sp_cnt q k = sp_cnt q' k := by
    intro k
    induction k with
    | zero => intro _; rfl
    | succ k ih =>
      intro hk
      show sp_cnt q k + q k = sp_cnt q' k + q' k
      rw [ih (by omega), h k (by omega) (by omega)]
  by_cases hn : 0 ≤ n
  · exact this _ (by omega)
  · rw [show n.toNat = 0 by omega]
    rfl
def sp_mx (q : Int → Int) : Nat → Int
  | 0 => 0
  | k + 1 => max (sp_mx q k) (q k)
theorem sp_mx_s {q : Int → Int} {i : Int} (h : 0 ≤ i) : sp_mx q (i + 1).toNat = max (sp_mx q i.toNat) (q i) := by
  rw [show (i + 1).toNat = i.toNat + 1 by omega]
  show max (sp_mx q i.toNat) (q (i.toNat : Int)) = _
  rw [show ((i.toNat : Nat) : Int) = i by omega]
theorem sp_mx_in {q : Int → Int} {b : Int} (hb : 0 ≤ b) : ∀ k : Nat, (∀ i : Int, 0 ≤ i → i < k → q i ≤ b) → 0 ≤ sp_mx q k ∧ sp_mx q k ≤ b := by
  intro k
  induction k with
  | zero => intro _; simp [sp_mx]; exact hb
  | succ k ih =>
    intro h
    have h1 := ih (fun i a c => h i a (by omega))
    have h2 := h k (by omega) (by omega)
    show 0 ≤ max (sp_mx q k) (q k) ∧ max (sp_mx q k) (q k) ≤ b
    omega
theorem sp_mx_congr {q q' : Int → Int} {n : Int} (h : ∀ i, 0 ≤ i → i < n → q i = q' i) : sp_mx q n.toNat = sp_mx q' n.toNat := by
  have : ∀ k : Nat, (k : Int) ≤ n → sp_mx q k = sp_mx q' k := by
    intro k
    induction k with
    | zero => intro _; rfl
    | succ k ih =>
      intro hk
      show max (sp_mx q k) (q k) = max (sp_mx q' k) (q' k)
      rw [ih (by omega), h k (by omega) (by omega)]
  by_cases hn : 0 ≤ n
  · exact this _ (by omega)
  · rw [show n.toNat = 0 by omega]
    rfl
/-- the first with the least d among those that p allows, if it is less than b: (place, least) -/
def sp_am (p : Int → Prop) [DecidablePred p] (d : Int → Int) (b : Int) : Nat → Int × Int
  | 0 => (-1, b)
  | k + 1 => if p k ∧ d k < (sp_am p d b k).2 then ((k : Int), d k) else sp_am p d b k
theorem sp_am_s {p : Int → Prop} [DecidablePred p] {d : Int → Int} {b i : Int} (h : 0 ≤ i) : sp_am p d b (i + 1).toNat = if p i ∧ d i < (sp_am p d b i.toNat).2 then (i, d i) else sp_am p d b i.toNat := by
  rw [show (i + 1).toNat = i.toNat + 1 by omega]
  show (if p (i.toNat : Int) ∧ d (i.toNat : Int) < (sp_am p d b i.toNat).2 then ((i.toNat : Int), d (i.toNat : Int)) else sp_am p d b i.toNat) = _
  rw [show ((i.toNat : Nat) : Int) = i by omega]
theorem sp_am_spec {p : Int → Prop} [DecidablePred p] {d : Int → Int} {b : Int} : ∀ k : Nat, ((sp_am p d b k).1 = -1 ∧ (sp_am p d b k).2 = b ∧ ∀ i : Int, 0 ≤ i → i < k → p i → b ≤ d i) ∨ (0 ≤ (sp_am p d b k).1 ∧ (sp_am p d b k).1 < k ∧ p (sp_am p d b k).1 ∧ (sp_am p d b k).2 = d (sp_am p d b k).1 ∧ (sp_am p d b k).2 < b) := by
  intro k
  induction k with
  | zero => exact Or.inl ⟨rfl, rfl, fun i a c => by omega⟩
  | succ k ih =>
    unfold sp_am
    by_cases hq : p k ∧ d k < (sp_am p d b k).2
    · rw [if_pos hq]
      refine Or.inr ⟨by simp, by simp; omega, hq.1, rfl, ?_⟩
      show d k < b
      rcases ih with ⟨-, h2, -⟩ | ⟨-, -, -, -, h2⟩ <;> omega
    · rw [if_neg hq]
      rcases ih with ⟨h1, h2, h3⟩ | ⟨h1, h2, h3, h4, h5⟩
      · refine Or.inl ⟨h1, h2, fun i a c hp => ?_⟩
        by_cases hi : i = k
        · subst hi
          have : ¬ d k < (sp_am p d b k).2 := fun z => hq ⟨hp, z⟩
          omega
        · exact h3 i a (by omega) hp
      · exact Or.inr ⟨h1, by omega, h3, h4, h5⟩
theorem sp_am_congr {p p' : Int → Prop} [DecidablePred p] [DecidablePred p'] {d d' : Int → Int} {b n : Int} (hp : ∀ i, 0 ≤ i → i < n → (p i ↔ p' i)) (hd : ∀ i, 0 ≤ i → i < n → p i → d i = d' i) : sp_am p d b n.toNat = sp_am p' d' b n.toNat := by
  have : ∀ k : Nat, (k : Int) ≤ n → sp_am p d b k = sp_am p' d' b k := by
    intro k
    induction k with
    | zero => intro _; rfl
    | succ k ih =>
      intro hk
      show (if p k ∧ d k < (sp_am p d b k).2 then ((k : Int), d k) else sp_am p d b k) = (if p' k ∧ d' k < (sp_am p' d' b k).2 then ((k : Int), d' k) else sp_am p' d' b k)
      rw [ih (by omega)]
      have h1 := hp k (by omega) (by omega)
      by_cases hq : p k
      · rw [hd k (by omega) (by omega) hq]
        have hq' := h1.mp hq
        simp [hq, hq']
      · have hq' : ¬ p' k := fun z => hq (h1.mpr z)
        simp [hq, hq']
  by_cases hn : 0 ≤ n
  · exact this _ (by omega)
  · rw [show n.toNat = 0 by omega]
    rfl
/-- what is told of the kept state at a place -/
def sp_we (m : Int → Int) (s : Int) : Int := if m (29 * s + 3) = -1 then m (29 * s + 4) else 2 + 2 * m (29 * s + 4)
def sp_bo (m : Int → Int) (n : Int) : Int := sp_cnt (fun s => if m (29 * s + 3) = n then 1 else 0) (m 580).toNat
def sp_wes (m : Int → Int) : Int := sp_cnt (sp_we m) (m 580).toNat
def sp_part (m : Int → Int) (s w : Int) : Int := if w = 0 then m (29 * s + 1) else if w = 1 then m (29 * s + 2) else if w = 2 then m (29 * s + 3) else if w = 3 then m (29 * s + 4) else if w = 4 then sp_lk m (m (29 * s)) else if w = 5 then (if sp_R m (m (29 * s)) = -1 then 1 else 0) else if w = 6 then sp_we m s else sp_bo m (m (29 * s))
/-- the game's values -/
def sp_gv (m : Int → Int) : Int → Int := fun j => m (583 + j)
/-- in how many values the game differs from the kept state n -/
def sp_gd (m : Int → Int) (n : Int) : Int := sp_dn (sp_rz (sp_V m n) (m (29 * sp_slot m n + 1)) (m 582)) (sp_gv m) (6 + 2 * m 582).toNat
def sp_near (m : Int → Int) : Prop := m 595 ≠ -1 ∧ sp_R m (m 595) = -1 ∧ sp_lk m (m 595) < m 596 ∧ sp_gd m (m 595) ≤ 6
end
