section
-- ===== PART A: goes FIRST, ahead of the names: the tables' words, and 'selects' of the private methods out of them =====
/-- a private method of a class that the tables say can be made, by its rows of tables_1 -/
def lw_okq (q : MethodName × Nat) : Prop := (q.1.cls ≠ "java/lang/invoke/MethodHandle" ∧ q.1.cls ≠ "java/lang/invoke/VarHandle") ∧ Cond.instantiable q.1.cls q.2 ∈ tables_1 ∧ Cond.privateMethod q.1 ∈ tables_1 ∧ Cond.instanceMethod q.1 ∈ tables_1
theorem lw_p0 : lw_okq (⟨"StateVault$Script", "run", "([II)I"⟩, 6) := ⟨⟨by decide +kernel, by decide +kernel⟩, List.mem_of_getElem? (i := 105) (by decide +kernel), List.mem_of_getElem? (i := 187) (by decide +kernel), List.mem_of_getElem? (i := 188) (by decide +kernel)⟩
theorem lw_p1 : lw_okq (⟨"StateVault$Script", "skipBlanks", "()V"⟩, 6) := ⟨⟨by decide +kernel, by decide +kernel⟩, List.mem_of_getElem? (i := 105) (by decide +kernel), List.mem_of_getElem? (i := 194) (by decide +kernel), List.mem_of_getElem? (i := 195) (by decide +kernel)⟩
theorem lw_p2 : lw_okq (⟨"StateVault$Script", "takeWord", "()I"⟩, 6) := ⟨⟨by decide +kernel, by decide +kernel⟩, List.mem_of_getElem? (i := 105) (by decide +kernel), List.mem_of_getElem? (i := 198) (by decide +kernel), List.mem_of_getElem? (i := 199) (by decide +kernel)⟩
theorem lw_p3 : lw_okq (⟨"StateVault$Script", "isLetterNext", "()Z"⟩, 6) := ⟨⟨by decide +kernel, by decide +kernel⟩, List.mem_of_getElem? (i := 105) (by decide +kernel), List.mem_of_getElem? (i := 202) (by decide +kernel), List.mem_of_getElem? (i := 203) (by decide +kernel)⟩
theorem lw_p4 : lw_okq (⟨"StateVault$Script", "wordAt", "(I)I"⟩, 6) := ⟨⟨by decide +kernel, by decide +kernel⟩, List.mem_of_getElem? (i := 105) (by decide +kernel), List.mem_of_getElem? (i := 206) (by decide +kernel), List.mem_of_getElem? (i := 207) (by decide +kernel)⟩
theorem lw_p5 : lw_okq (⟨"StateVault$Script", "isSpelled", "(Ljava/lang/String;I)Z"⟩, 6) := ⟨⟨by decide +kernel, by decide +kernel⟩, List.mem_of_getElem? (i := 105) (by decide +kernel), List.mem_of_getElem? (i := 211) (by decide +kernel), List.mem_of_getElem? (i := 212) (by decide +kernel)⟩
theorem lw_p6 : lw_okq (⟨"StateVault$Script", "failAt", "(I)V"⟩, 6) := ⟨⟨by decide +kernel, by decide +kernel⟩, List.mem_of_getElem? (i := 105) (by decide +kernel), List.mem_of_getElem? (i := 267) (by decide +kernel), List.mem_of_getElem? (i := 268) (by decide +kernel)⟩
theorem lw_p7 : lw_okq (⟨"StateVault$Script", "runCommand", "(I)V"⟩, 6) := ⟨⟨by decide +kernel, by decide +kernel⟩, List.mem_of_getElem? (i := 105) (by decide +kernel), List.mem_of_getElem? (i := 271) (by decide +kernel), List.mem_of_getElem? (i := 272) (by decide +kernel)⟩
theorem lw_p8 : lw_okq (⟨"StateVault$Script", "runSet", "()V"⟩, 6) := ⟨⟨by decide +kernel, by decide +kernel⟩, List.mem_of_getElem? (i := 105) (by decide +kernel), List.mem_of_getElem? (i := 275) (by decide +kernel), List.mem_of_getElem? (i := 276) (by decide +kernel)⟩
theorem lw_p9 : lw_okq (⟨"StateVault$Script", "takeIndex", "(I)I"⟩, 6) := ⟨⟨by decide +kernel, by decide +kernel⟩, List.mem_of_getElem? (i := 105) (by decide +kernel), List.mem_of_getElem? (i := 279) (by decide +kernel), List.mem_of_getElem? (i := 280) (by decide +kernel)⟩
theorem lw_p10 : lw_okq (⟨"StateVault$Script", "takeDigits", "()I"⟩, 6) := ⟨⟨by decide +kernel, by decide +kernel⟩, List.mem_of_getElem? (i := 105) (by decide +kernel), List.mem_of_getElem? (i := 283) (by decide +kernel), List.mem_of_getElem? (i := 284) (by decide +kernel)⟩
theorem lw_p11 : lw_okq (⟨"StateVault$Script", "isDigitNext", "()Z"⟩, 6) := ⟨⟨by decide +kernel, by decide +kernel⟩, List.mem_of_getElem? (i := 105) (by decide +kernel), List.mem_of_getElem? (i := 287) (by decide +kernel), List.mem_of_getElem? (i := 288) (by decide +kernel)⟩
theorem lw_p12 : lw_okq (⟨"StateVault$Script", "takeNumber", "()I"⟩, 6) := ⟨⟨by decide +kernel, by decide +kernel⟩, List.mem_of_getElem? (i := 105) (by decide +kernel), List.mem_of_getElem? (i := 291) (by decide +kernel), List.mem_of_getElem? (i := 292) (by decide +kernel)⟩
theorem lw_p13 : lw_okq (⟨"StateVault$Script", "takeSemicolon", "()V"⟩, 6) := ⟨⟨by decide +kernel, by decide +kernel⟩, List.mem_of_getElem? (i := 105) (by decide +kernel), List.mem_of_getElem? (i := 295) (by decide +kernel), List.mem_of_getElem? (i := 296) (by decide +kernel)⟩
theorem lw_p14 : lw_okq (⟨"StateVault$Script", "isNext", "(I)Z"⟩, 6) := ⟨⟨by decide +kernel, by decide +kernel⟩, List.mem_of_getElem? (i := 105) (by decide +kernel), List.mem_of_getElem? (i := 299) (by decide +kernel), List.mem_of_getElem? (i := 300) (by decide +kernel)⟩
theorem lw_p15 : lw_okq (⟨"StateVault$Script", "runAdd", "()V"⟩, 6) := ⟨⟨by decide +kernel, by decide +kernel⟩, List.mem_of_getElem? (i := 105) (by decide +kernel), List.mem_of_getElem? (i := 303) (by decide +kernel), List.mem_of_getElem? (i := 304) (by decide +kernel)⟩
def lw_privs_1 : List (MethodName × Nat) := [(⟨"StateVault$Script", "run", "([II)I"⟩, 6), (⟨"StateVault$Script", "skipBlanks", "()V"⟩, 6), (⟨"StateVault$Script", "takeWord", "()I"⟩, 6), (⟨"StateVault$Script", "isLetterNext", "()Z"⟩, 6), (⟨"StateVault$Script", "wordAt", "(I)I"⟩, 6), (⟨"StateVault$Script", "isSpelled", "(Ljava/lang/String;I)Z"⟩, 6), (⟨"StateVault$Script", "failAt", "(I)V"⟩, 6), (⟨"StateVault$Script", "runCommand", "(I)V"⟩, 6), (⟨"StateVault$Script", "runSet", "()V"⟩, 6), (⟨"StateVault$Script", "takeIndex", "(I)I"⟩, 6), (⟨"StateVault$Script", "takeDigits", "()I"⟩, 6), (⟨"StateVault$Script", "isDigitNext", "()Z"⟩, 6), (⟨"StateVault$Script", "takeNumber", "()I"⟩, 6), (⟨"StateVault$Script", "takeSemicolon", "()V"⟩, 6), (⟨"StateVault$Script", "isNext", "(I)Z"⟩, 6), (⟨"StateVault$Script", "runAdd", "()V"⟩, 6)]
theorem lw_r1 : ∀ q ∈ lw_privs_1, lw_okq q := List.forall_mem_cons.mpr ⟨lw_p0, List.forall_mem_cons.mpr ⟨lw_p1, List.forall_mem_cons.mpr ⟨lw_p2, List.forall_mem_cons.mpr ⟨lw_p3, List.forall_mem_cons.mpr ⟨lw_p4, List.forall_mem_cons.mpr ⟨lw_p5, List.forall_mem_cons.mpr ⟨lw_p6, List.forall_mem_cons.mpr ⟨lw_p7, List.forall_mem_cons.mpr ⟨lw_p8, List.forall_mem_cons.mpr ⟨lw_p9, List.forall_mem_cons.mpr ⟨lw_p10, List.forall_mem_cons.mpr ⟨lw_p11, List.forall_mem_cons.mpr ⟨lw_p12, List.forall_mem_cons.mpr ⟨lw_p13, List.forall_mem_cons.mpr ⟨lw_p14, List.forall_mem_cons.mpr ⟨lw_p15, fun _ h => absurd h List.not_mem_nil⟩⟩⟩⟩⟩⟩⟩⟩⟩⟩⟩⟩⟩⟩⟩⟩
theorem lw_p16 : lw_okq (⟨"StateVault$Script", "takeAmount", "()I"⟩, 6) := ⟨⟨by decide +kernel, by decide +kernel⟩, List.mem_of_getElem? (i := 105) (by decide +kernel), List.mem_of_getElem? (i := 307) (by decide +kernel), List.mem_of_getElem? (i := 308) (by decide +kernel)⟩
theorem lw_p17 : lw_okq (⟨"StateVault$Script", "runSwap", "()V"⟩, 6) := ⟨⟨by decide +kernel, by decide +kernel⟩, List.mem_of_getElem? (i := 105) (by decide +kernel), List.mem_of_getElem? (i := 317) (by decide +kernel), List.mem_of_getElem? (i := 318) (by decide +kernel)⟩
theorem lw_p18 : lw_okq (⟨"StateVault$Script", "runFill", "()V"⟩, 6) := ⟨⟨by decide +kernel, by decide +kernel⟩, List.mem_of_getElem? (i := 105) (by decide +kernel), List.mem_of_getElem? (i := 321) (by decide +kernel), List.mem_of_getElem? (i := 322) (by decide +kernel)⟩
theorem lw_p19 : lw_okq (⟨"StateVault$Script", "runTurn", "()V"⟩, 6) := ⟨⟨by decide +kernel, by decide +kernel⟩, List.mem_of_getElem? (i := 105) (by decide +kernel), List.mem_of_getElem? (i := 325) (by decide +kernel), List.mem_of_getElem? (i := 326) (by decide +kernel)⟩
theorem lw_p20 : lw_okq (⟨"StateVault", "remember", "()V"⟩, 7) := ⟨⟨by decide +kernel, by decide +kernel⟩, List.mem_of_getElem? (i := 14) (by decide +kernel), List.mem_of_getElem? (i := 329) (by decide +kernel), List.mem_of_getElem? (i := 330) (by decide +kernel)⟩
theorem lw_p21 : lw_okq (⟨"StateVault$Moment", "copyFrom", "(LStateVault$Moment;)V"⟩, 7) := ⟨⟨by decide +kernel, by decide +kernel⟩, List.mem_of_getElem? (i := 22) (by decide +kernel), List.mem_of_getElem? (i := 333) (by decide +kernel), List.mem_of_getElem? (i := 334) (by decide +kernel)⟩
theorem lw_p22 : lw_okq (⟨"StateVault$Kept", "copyKept", "(LStateVault$Kept;)V"⟩, 7) := ⟨⟨by decide +kernel, by decide +kernel⟩, List.mem_of_getElem? (i := 29) (by decide +kernel), List.mem_of_getElem? (i := 338) (by decide +kernel), List.mem_of_getElem? (i := 339) (by decide +kernel)⟩
theorem lw_p23 : lw_okq (⟨"StateVault$Reading", "readAll", "(LStateVault$Moment;)V"⟩, 2) := ⟨⟨by decide +kernel, by decide +kernel⟩, List.mem_of_getElem? (i := 133) (by decide +kernel), List.mem_of_getElem? (i := 357) (by decide +kernel), List.mem_of_getElem? (i := 358) (by decide +kernel)⟩
theorem lw_p24 : lw_okq (⟨"StateVault$Reading", "readPlace", "(LStateVault$Moment;I)I"⟩, 2) := ⟨⟨by decide +kernel, by decide +kernel⟩, List.mem_of_getElem? (i := 133) (by decide +kernel), List.mem_of_getElem? (i := 361) (by decide +kernel), List.mem_of_getElem? (i := 362) (by decide +kernel)⟩
theorem lw_p25 : lw_okq (⟨"StateVault$Moment", "placeOf", "(I)I"⟩, 7) := ⟨⟨by decide +kernel, by decide +kernel⟩, List.mem_of_getElem? (i := 22) (by decide +kernel), List.mem_of_getElem? (i := 365) (by decide +kernel), List.mem_of_getElem? (i := 366) (by decide +kernel)⟩
theorem lw_p26 : lw_okq (⟨"StateVault", "baseForGame", "()I"⟩, 7) := ⟨⟨by decide +kernel, by decide +kernel⟩, List.mem_of_getElem? (i := 14) (by decide +kernel), List.mem_of_getElem? (i := 375) (by decide +kernel), List.mem_of_getElem? (i := 376) (by decide +kernel)⟩
theorem lw_p27 : lw_okq (⟨"StateVault", "canBeBase", "(II)Z"⟩, 7) := ⟨⟨by decide +kernel, by decide +kernel⟩, List.mem_of_getElem? (i := 14) (by decide +kernel), List.mem_of_getElem? (i := 380) (by decide +kernel), List.mem_of_getElem? (i := 381) (by decide +kernel)⟩
theorem lw_p28 : lw_okq (⟨"StateVault$Moment", "linksOf", "(I)I"⟩, 7) := ⟨⟨by decide +kernel, by decide +kernel⟩, List.mem_of_getElem? (i := 22) (by decide +kernel), List.mem_of_getElem? (i := 384) (by decide +kernel), List.mem_of_getElem? (i := 385) (by decide +kernel)⟩
theorem lw_p29 : lw_okq (⟨"StateVault$Moment", "baseOf", "(I)I"⟩, 7) := ⟨⟨by decide +kernel, by decide +kernel⟩, List.mem_of_getElem? (i := 22) (by decide +kernel), List.mem_of_getElem? (i := 388) (by decide +kernel), List.mem_of_getElem? (i := 389) (by decide +kernel)⟩
theorem lw_p30 : lw_okq (⟨"StateVault", "distance", "(II[I)I"⟩, 7) := ⟨⟨by decide +kernel, by decide +kernel⟩, List.mem_of_getElem? (i := 14) (by decide +kernel), List.mem_of_getElem? (i := 393) (by decide +kernel), List.mem_of_getElem? (i := 394) (by decide +kernel)⟩
theorem lw_p31 : lw_okq (⟨"StateVault", "raiseRead", "(II[I)V"⟩, 7) := ⟨⟨by decide +kernel, by decide +kernel⟩, List.mem_of_getElem? (i := 14) (by decide +kernel), List.mem_of_getElem? (i := 397) (by decide +kernel), List.mem_of_getElem? (i := 398) (by decide +kernel)⟩
def lw_privs_2 : List (MethodName × Nat) := [(⟨"StateVault$Script", "takeAmount", "()I"⟩, 6), (⟨"StateVault$Script", "runSwap", "()V"⟩, 6), (⟨"StateVault$Script", "runFill", "()V"⟩, 6), (⟨"StateVault$Script", "runTurn", "()V"⟩, 6), (⟨"StateVault", "remember", "()V"⟩, 7), (⟨"StateVault$Moment", "copyFrom", "(LStateVault$Moment;)V"⟩, 7), (⟨"StateVault$Kept", "copyKept", "(LStateVault$Kept;)V"⟩, 7), (⟨"StateVault$Reading", "readAll", "(LStateVault$Moment;)V"⟩, 2), (⟨"StateVault$Reading", "readPlace", "(LStateVault$Moment;I)I"⟩, 2), (⟨"StateVault$Moment", "placeOf", "(I)I"⟩, 7), (⟨"StateVault", "baseForGame", "()I"⟩, 7), (⟨"StateVault", "canBeBase", "(II)Z"⟩, 7), (⟨"StateVault$Moment", "linksOf", "(I)I"⟩, 7), (⟨"StateVault$Moment", "baseOf", "(I)I"⟩, 7), (⟨"StateVault", "distance", "(II[I)I"⟩, 7), (⟨"StateVault", "raiseRead", "(II[I)V"⟩, 7)]
theorem lw_r2 : ∀ q ∈ lw_privs_2, lw_okq q := List.forall_mem_cons.mpr ⟨lw_p16, List.forall_mem_cons.mpr ⟨lw_p17, List.forall_mem_cons.mpr ⟨lw_p18, List.forall_mem_cons.mpr ⟨lw_p19, List.forall_mem_cons.mpr ⟨lw_p20, List.forall_mem_cons.mpr ⟨lw_p21, List.forall_mem_cons.mpr ⟨lw_p22, List.forall_mem_cons.mpr ⟨lw_p23, List.forall_mem_cons.mpr ⟨lw_p24, List.forall_mem_cons.mpr ⟨lw_p25, List.forall_mem_cons.mpr ⟨lw_p26, List.forall_mem_cons.mpr ⟨lw_p27, List.forall_mem_cons.mpr ⟨lw_p28, List.forall_mem_cons.mpr ⟨lw_p29, List.forall_mem_cons.mpr ⟨lw_p30, List.forall_mem_cons.mpr ⟨lw_p31, fun _ h => absurd h List.not_mem_nil⟩⟩⟩⟩⟩⟩⟩⟩⟩⟩⟩⟩⟩⟩⟩⟩
theorem lw_p32 : lw_okq (⟨"StateVault$Kept", "makeWhole", "([I)V"⟩, 7) := ⟨⟨by decide +kernel, by decide +kernel⟩, List.mem_of_getElem? (i := 29) (by decide +kernel), List.mem_of_getElem? (i := 401) (by decide +kernel), List.mem_of_getElem? (i := 402) (by decide +kernel)⟩
theorem lw_p33 : lw_okq (⟨"StateVault$Kept", "makeDifference", "(I[I[I)V"⟩, 7) := ⟨⟨by decide +kernel, by decide +kernel⟩, List.mem_of_getElem? (i := 29) (by decide +kernel), List.mem_of_getElem? (i := 406) (by decide +kernel), List.mem_of_getElem? (i := 407) (by decide +kernel)⟩
theorem lw_p34 : lw_okq (⟨"StateVault", "mendFollowers", "(I)V"⟩, 7) := ⟨⟨by decide +kernel, by decide +kernel⟩, List.mem_of_getElem? (i := 14) (by decide +kernel), List.mem_of_getElem? (i := 419) (by decide +kernel), List.mem_of_getElem? (i := 420) (by decide +kernel)⟩
theorem lw_p35 : lw_okq (⟨"StateVault$Moment", "removePlace", "(I)V"⟩, 7) := ⟨⟨by decide +kernel, by decide +kernel⟩, List.mem_of_getElem? (i := 22) (by decide +kernel), List.mem_of_getElem? (i := 423) (by decide +kernel), List.mem_of_getElem? (i := 424) (by decide +kernel)⟩
theorem lw_p36 : lw_okq (⟨"StateVault$Moment", "followersOf", "(I)I"⟩, 7) := ⟨⟨by decide +kernel, by decide +kernel⟩, List.mem_of_getElem? (i := 22) (by decide +kernel), List.mem_of_getElem? (i := 427) (by decide +kernel), List.mem_of_getElem? (i := 428) (by decide +kernel)⟩
theorem lw_p37 : lw_okq (⟨"StateVault$Moment", "weight", "()I"⟩, 7) := ⟨⟨by decide +kernel, by decide +kernel⟩, List.mem_of_getElem? (i := 22) (by decide +kernel), List.mem_of_getElem? (i := 439) (by decide +kernel), List.mem_of_getElem? (i := 440) (by decide +kernel)⟩
theorem lw_p38 : lw_okq (⟨"StateVault$Kept", "weight", "()I"⟩, 7) := ⟨⟨by decide +kernel, by decide +kernel⟩, List.mem_of_getElem? (i := 29) (by decide +kernel), List.mem_of_getElem? (i := 443) (by decide +kernel), List.mem_of_getElem? (i := 444) (by decide +kernel)⟩
theorem lw_p39 : lw_okq (⟨"StateVault", "packPlace", "(I)V"⟩, 7) := ⟨⟨by decide +kernel, by decide +kernel⟩, List.mem_of_getElem? (i := 14) (by decide +kernel), List.mem_of_getElem? (i := 447) (by decide +kernel), List.mem_of_getElem? (i := 448) (by decide +kernel)⟩
theorem lw_p40 : lw_okq (⟨"StateVault", "propertyOf", "(II)I"⟩, 7) := ⟨⟨by decide +kernel, by decide +kernel⟩, List.mem_of_getElem? (i := 14) (by decide +kernel), List.mem_of_getElem? (i := 467) (by decide +kernel), List.mem_of_getElem? (i := 468) (by decide +kernel)⟩
theorem lw_p41 : lw_okq (⟨"StateVault", "causeOf", "(III)I"⟩, 7) := ⟨⟨by decide +kernel, by decide +kernel⟩, List.mem_of_getElem? (i := 14) (by decide +kernel), List.mem_of_getElem? (i := 484) (by decide +kernel), List.mem_of_getElem? (i := 485) (by decide +kernel)⟩
theorem lw_p42 : lw_okq (⟨"StateVault", "reasonOf", "(I)I"⟩, 7) := ⟨⟨by decide +kernel, by decide +kernel⟩, List.mem_of_getElem? (i := 14) (by decide +kernel), List.mem_of_getElem? (i := 488) (by decide +kernel), List.mem_of_getElem? (i := 489) (by decide +kernel)⟩
theorem lw_p43 : lw_okq (⟨"StateVault", "nearestToGame", "()I"⟩, 7) := ⟨⟨by decide +kernel, by decide +kernel⟩, List.mem_of_getElem? (i := 14) (by decide +kernel), List.mem_of_getElem? (i := 505) (by decide +kernel), List.mem_of_getElem? (i := 506) (by decide +kernel)⟩
theorem lw_p44 : lw_okq (⟨"StateVault", "tally", "(I)I"⟩, 7) := ⟨⟨by decide +kernel, by decide +kernel⟩, List.mem_of_getElem? (i := 14) (by decide +kernel), List.mem_of_getElem? (i := 513) (by decide +kernel), List.mem_of_getElem? (i := 514) (by decide +kernel)⟩
theorem lw_p45 : lw_okq (⟨"StateVault$Moment", "wholeOnes", "()I"⟩, 7) := ⟨⟨by decide +kernel, by decide +kernel⟩, List.mem_of_getElem? (i := 22) (by decide +kernel), List.mem_of_getElem? (i := 517) (by decide +kernel), List.mem_of_getElem? (i := 518) (by decide +kernel)⟩
theorem lw_p46 : lw_okq (⟨"StateVault", "unreadable", "()I"⟩, 7) := ⟨⟨by decide +kernel, by decide +kernel⟩, List.mem_of_getElem? (i := 14) (by decide +kernel), List.mem_of_getElem? (i := 522) (by decide +kernel), List.mem_of_getElem? (i := 523) (by decide +kernel)⟩
theorem lw_p47 : lw_okq (⟨"StateVault$Moment", "longestChain", "()I"⟩, 7) := ⟨⟨by decide +kernel, by decide +kernel⟩, List.mem_of_getElem? (i := 22) (by decide +kernel), List.mem_of_getElem? (i := 526) (by decide +kernel), List.mem_of_getElem? (i := 527) (by decide +kernel)⟩
def lw_privs_3 : List (MethodName × Nat) := [(⟨"StateVault$Kept", "makeWhole", "([I)V"⟩, 7), (⟨"StateVault$Kept", "makeDifference", "(I[I[I)V"⟩, 7), (⟨"StateVault", "mendFollowers", "(I)V"⟩, 7), (⟨"StateVault$Moment", "removePlace", "(I)V"⟩, 7), (⟨"StateVault$Moment", "followersOf", "(I)I"⟩, 7), (⟨"StateVault$Moment", "weight", "()I"⟩, 7), (⟨"StateVault$Kept", "weight", "()I"⟩, 7), (⟨"StateVault", "packPlace", "(I)V"⟩, 7), (⟨"StateVault", "propertyOf", "(II)I"⟩, 7), (⟨"StateVault", "causeOf", "(III)I"⟩, 7), (⟨"StateVault", "reasonOf", "(I)I"⟩, 7), (⟨"StateVault", "nearestToGame", "()I"⟩, 7), (⟨"StateVault", "tally", "(I)I"⟩, 7), (⟨"StateVault$Moment", "wholeOnes", "()I"⟩, 7), (⟨"StateVault", "unreadable", "()I"⟩, 7), (⟨"StateVault$Moment", "longestChain", "()I"⟩, 7)]
theorem lw_r3 : ∀ q ∈ lw_privs_3, lw_okq q := List.forall_mem_cons.mpr ⟨lw_p32, List.forall_mem_cons.mpr ⟨lw_p33, List.forall_mem_cons.mpr ⟨lw_p34, List.forall_mem_cons.mpr ⟨lw_p35, List.forall_mem_cons.mpr ⟨lw_p36, List.forall_mem_cons.mpr ⟨lw_p37, List.forall_mem_cons.mpr ⟨lw_p38, List.forall_mem_cons.mpr ⟨lw_p39, List.forall_mem_cons.mpr ⟨lw_p40, List.forall_mem_cons.mpr ⟨lw_p41, List.forall_mem_cons.mpr ⟨lw_p42, List.forall_mem_cons.mpr ⟨lw_p43, List.forall_mem_cons.mpr ⟨lw_p44, List.forall_mem_cons.mpr ⟨lw_p45, List.forall_mem_cons.mpr ⟨lw_p46, List.forall_mem_cons.mpr ⟨lw_p47, fun _ h => absurd h List.not_mem_nil⟩⟩⟩⟩⟩⟩⟩⟩⟩⟩⟩⟩⟩⟩⟩⟩
theorem lw_p48 : lw_okq (⟨"StateVault", "addPlace", "(JI)J"⟩, 7) := ⟨⟨by decide +kernel, by decide +kernel⟩, List.mem_of_getElem? (i := 14) (by decide +kernel), List.mem_of_getElem? (i := 538) (by decide +kernel), List.mem_of_getElem? (i := 539) (by decide +kernel)⟩
theorem lw_p49 : lw_okq (⟨"StateVaultModel", "readsScript", "()V"⟩, 17) := ⟨⟨by decide +kernel, by decide +kernel⟩, List.mem_of_getElem? (i := 542) (by decide +kernel), List.mem_of_getElem? (i := 620) (by decide +kernel), List.mem_of_getElem? (i := 621) (by decide +kernel)⟩
theorem lw_p50 : lw_okq (⟨"StateVaultModel", "skips", "()V"⟩, 17) := ⟨⟨by decide +kernel, by decide +kernel⟩, List.mem_of_getElem? (i := 542) (by decide +kernel), List.mem_of_getElem? (i := 624) (by decide +kernel), List.mem_of_getElem? (i := 625) (by decide +kernel)⟩
theorem lw_p51 : lw_okq (⟨"StateVaultModel", "next", "()I"⟩, 17) := ⟨⟨by decide +kernel, by decide +kernel⟩, List.mem_of_getElem? (i := 542) (by decide +kernel), List.mem_of_getElem? (i := 628) (by decide +kernel), List.mem_of_getElem? (i := 629) (by decide +kernel)⟩
theorem lw_p52 : lw_okq (⟨"StateVaultModel", "readsCommand", "()V"⟩, 17) := ⟨⟨by decide +kernel, by decide +kernel⟩, List.mem_of_getElem? (i := 542) (by decide +kernel), List.mem_of_getElem? (i := 632) (by decide +kernel), List.mem_of_getElem? (i := 633) (by decide +kernel)⟩
theorem lw_p53 : lw_okq (⟨"StateVaultModel", "wordOf", "(I)I"⟩, 17) := ⟨⟨by decide +kernel, by decide +kernel⟩, List.mem_of_getElem? (i := 542) (by decide +kernel), List.mem_of_getElem? (i := 636) (by decide +kernel), List.mem_of_getElem? (i := 637) (by decide +kernel)⟩
theorem lw_p54 : lw_okq (⟨"StateVaultModel", "isWord", "(III)Z"⟩, 17) := ⟨⟨by decide +kernel, by decide +kernel⟩, List.mem_of_getElem? (i := 542) (by decide +kernel), List.mem_of_getElem? (i := 641) (by decide +kernel), List.mem_of_getElem? (i := 642) (by decide +kernel)⟩
theorem lw_p55 : lw_okq (⟨"StateVaultModel", "fails", "(I)V"⟩, 17) := ⟨⟨by decide +kernel, by decide +kernel⟩, List.mem_of_getElem? (i := 542) (by decide +kernel), List.mem_of_getElem? (i := 649) (by decide +kernel), List.mem_of_getElem? (i := 650) (by decide +kernel)⟩
theorem lw_p56 : lw_okq (⟨"StateVaultModel", "number", "(II)I"⟩, 17) := ⟨⟨by decide +kernel, by decide +kernel⟩, List.mem_of_getElem? (i := 542) (by decide +kernel), List.mem_of_getElem? (i := 656) (by decide +kernel), List.mem_of_getElem? (i := 657) (by decide +kernel)⟩
theorem lw_p57 : lw_okq (⟨"StateVaultModel", "isDigit", "()Z"⟩, 17) := ⟨⟨by decide +kernel, by decide +kernel⟩, List.mem_of_getElem? (i := 542) (by decide +kernel), List.mem_of_getElem? (i := 660) (by decide +kernel), List.mem_of_getElem? (i := 661) (by decide +kernel)⟩
theorem lw_p58 : lw_okq (⟨"StateVaultModel", "amount", "()I"⟩, 17) := ⟨⟨by decide +kernel, by decide +kernel⟩, List.mem_of_getElem? (i := 542) (by decide +kernel), List.mem_of_getElem? (i := 664) (by decide +kernel), List.mem_of_getElem? (i := 665) (by decide +kernel)⟩
theorem lw_p59 : lw_okq (⟨"StateVaultModel", "keeps", "()V"⟩, 17) := ⟨⟨by decide +kernel, by decide +kernel⟩, List.mem_of_getElem? (i := 542) (by decide +kernel), List.mem_of_getElem? (i := 668) (by decide +kernel), List.mem_of_getElem? (i := 669) (by decide +kernel)⟩
theorem lw_p60 : lw_okq (⟨"StateVaultModel", "does", "(I)V"⟩, 17) := ⟨⟨by decide +kernel, by decide +kernel⟩, List.mem_of_getElem? (i := 542) (by decide +kernel), List.mem_of_getElem? (i := 672) (by decide +kernel), List.mem_of_getElem? (i := 673) (by decide +kernel)⟩
theorem lw_p61 : lw_okq (⟨"StateVaultModel", "turns", "(II)V"⟩, 17) := ⟨⟨by decide +kernel, by decide +kernel⟩, List.mem_of_getElem? (i := 542) (by decide +kernel), List.mem_of_getElem? (i := 676) (by decide +kernel), List.mem_of_getElem? (i := 677) (by decide +kernel)⟩
theorem lw_p62 : lw_okq (⟨"StateVaultModel", "takesGame", "()V"⟩, 17) := ⟨⟨by decide +kernel, by decide +kernel⟩, List.mem_of_getElem? (i := 542) (by decide +kernel), List.mem_of_getElem? (i := 684) (by decide +kernel), List.mem_of_getElem? (i := 685) (by decide +kernel)⟩
theorem lw_p63 : lw_okq (⟨"StateVaultModel", "raises", "()V"⟩, 17) := ⟨⟨by decide +kernel, by decide +kernel⟩, List.mem_of_getElem? (i := 542) (by decide +kernel), List.mem_of_getElem? (i := 688) (by decide +kernel), List.mem_of_getElem? (i := 689) (by decide +kernel)⟩
def lw_privs_4 : List (MethodName × Nat) := [(⟨"StateVault", "addPlace", "(JI)J"⟩, 7), (⟨"StateVaultModel", "readsScript", "()V"⟩, 17), (⟨"StateVaultModel", "skips", "()V"⟩, 17), (⟨"StateVaultModel", "next", "()I"⟩, 17), (⟨"StateVaultModel", "readsCommand", "()V"⟩, 17), (⟨"StateVaultModel", "wordOf", "(I)I"⟩, 17), (⟨"StateVaultModel", "isWord", "(III)Z"⟩, 17), (⟨"StateVaultModel", "fails", "(I)V"⟩, 17), (⟨"StateVaultModel", "number", "(II)I"⟩, 17), (⟨"StateVaultModel", "isDigit", "()Z"⟩, 17), (⟨"StateVaultModel", "amount", "()I"⟩, 17), (⟨"StateVaultModel", "keeps", "()V"⟩, 17), (⟨"StateVaultModel", "does", "(I)V"⟩, 17), (⟨"StateVaultModel", "turns", "(II)V"⟩, 17), (⟨"StateVaultModel", "takesGame", "()V"⟩, 17), (⟨"StateVaultModel", "raises", "()V"⟩, 17)]
theorem lw_r4 : ∀ q ∈ lw_privs_4, lw_okq q := List.forall_mem_cons.mpr ⟨lw_p48, List.forall_mem_cons.mpr ⟨lw_p49, List.forall_mem_cons.mpr ⟨lw_p50, List.forall_mem_cons.mpr ⟨lw_p51, List.forall_mem_cons.mpr ⟨lw_p52, List.forall_mem_cons.mpr ⟨lw_p53, List.forall_mem_cons.mpr ⟨lw_p54, List.forall_mem_cons.mpr ⟨lw_p55, List.forall_mem_cons.mpr ⟨lw_p56, List.forall_mem_cons.mpr ⟨lw_p57, List.forall_mem_cons.mpr ⟨lw_p58, List.forall_mem_cons.mpr ⟨lw_p59, List.forall_mem_cons.mpr ⟨lw_p60, List.forall_mem_cons.mpr ⟨lw_p61, List.forall_mem_cons.mpr ⟨lw_p62, List.forall_mem_cons.mpr ⟨lw_p63, fun _ h => absurd h List.not_mem_nil⟩⟩⟩⟩⟩⟩⟩⟩⟩⟩⟩⟩⟩⟩⟩⟩
theorem lw_p64 : lw_okq (⟨"StateVaultModel", "givesGame", "()V"⟩, 17) := ⟨⟨by decide +kernel, by decide +kernel⟩, List.mem_of_getElem? (i := 542) (by decide +kernel), List.mem_of_getElem? (i := 692) (by decide +kernel), List.mem_of_getElem? (i := 693) (by decide +kernel)⟩
theorem lw_p65 : lw_okq (⟨"StateVaultModel", "sumNow", "()I"⟩, 17) := ⟨⟨by decide +kernel, by decide +kernel⟩, List.mem_of_getElem? (i := 542) (by decide +kernel), List.mem_of_getElem? (i := 700) (by decide +kernel), List.mem_of_getElem? (i := 701) (by decide +kernel)⟩
theorem lw_p66 : lw_okq (⟨"StateVaultModel", "isNear", "()Z"⟩, 17) := ⟨⟨by decide +kernel, by decide +kernel⟩, List.mem_of_getElem? (i := 542) (by decide +kernel), List.mem_of_getElem? (i := 704) (by decide +kernel), List.mem_of_getElem? (i := 705) (by decide +kernel)⟩
theorem lw_p67 : lw_okq (⟨"StateVaultModel", "setsAside", "()V"⟩, 17) := ⟨⟨by decide +kernel, by decide +kernel⟩, List.mem_of_getElem? (i := 542) (by decide +kernel), List.mem_of_getElem? (i := 708) (by decide +kernel), List.mem_of_getElem? (i := 709) (by decide +kernel)⟩
theorem lw_p68 : lw_okq (⟨"StateVaultModel", "reads", "(I)Z"⟩, 17) := ⟨⟨by decide +kernel, by decide +kernel⟩, List.mem_of_getElem? (i := 542) (by decide +kernel), List.mem_of_getElem? (i := 712) (by decide +kernel), List.mem_of_getElem? (i := 713) (by decide +kernel)⟩
theorem lw_p69 : lw_okq (⟨"StateVaultModel", "climbs", "(I)V"⟩, 17) := ⟨⟨by decide +kernel, by decide +kernel⟩, List.mem_of_getElem? (i := 542) (by decide +kernel), List.mem_of_getElem? (i := 716) (by decide +kernel), List.mem_of_getElem? (i := 717) (by decide +kernel)⟩
theorem lw_p70 : lw_okq (⟨"StateVaultModel", "slotOf", "(I)I"⟩, 17) := ⟨⟨by decide +kernel, by decide +kernel⟩, List.mem_of_getElem? (i := 542) (by decide +kernel), List.mem_of_getElem? (i := 720) (by decide +kernel), List.mem_of_getElem? (i := 721) (by decide +kernel)⟩
theorem lw_p71 : lw_okq (⟨"StateVaultModel", "of", "(II)I"⟩, 17) := ⟨⟨by decide +kernel, by decide +kernel⟩, List.mem_of_getElem? (i := 542) (by decide +kernel), List.mem_of_getElem? (i := 724) (by decide +kernel), List.mem_of_getElem? (i := 725) (by decide +kernel)⟩
theorem lw_p72 : lw_okq (⟨"StateVaultModel", "isWhole", "(I)Z"⟩, 17) := ⟨⟨by decide +kernel, by decide +kernel⟩, List.mem_of_getElem? (i := 542) (by decide +kernel), List.mem_of_getElem? (i := 728) (by decide +kernel), List.mem_of_getElem? (i := 729) (by decide +kernel)⟩
theorem lw_p73 : lw_okq (⟨"StateVaultModel", "raisesTo", "(I)V"⟩, 17) := ⟨⟨by decide +kernel, by decide +kernel⟩, List.mem_of_getElem? (i := 542) (by decide +kernel), List.mem_of_getElem? (i := 732) (by decide +kernel), List.mem_of_getElem? (i := 733) (by decide +kernel)⟩
theorem lw_p74 : lw_okq (⟨"StateVaultModel", "differences", "(I)I"⟩, 17) := ⟨⟨by decide +kernel, by decide +kernel⟩, List.mem_of_getElem? (i := 542) (by decide +kernel), List.mem_of_getElem? (i := 736) (by decide +kernel), List.mem_of_getElem? (i := 737) (by decide +kernel)⟩
theorem lw_p75 : lw_okq (⟨"StateVaultModel", "put", "(III)V"⟩, 17) := ⟨⟨by decide +kernel, by decide +kernel⟩, List.mem_of_getElem? (i := 542) (by decide +kernel), List.mem_of_getElem? (i := 740) (by decide +kernel), List.mem_of_getElem? (i := 741) (by decide +kernel)⟩
theorem lw_p76 : lw_okq (⟨"StateVaultModel", "writesDifference", "(II)V"⟩, 17) := ⟨⟨by decide +kernel, by decide +kernel⟩, List.mem_of_getElem? (i := 542) (by decide +kernel), List.mem_of_getElem? (i := 744) (by decide +kernel), List.mem_of_getElem? (i := 745) (by decide +kernel)⟩
theorem lw_p77 : lw_okq (⟨"StateVaultModel", "writesWhole", "(I)V"⟩, 17) := ⟨⟨by decide +kernel, by decide +kernel⟩, List.mem_of_getElem? (i := 542) (by decide +kernel), List.mem_of_getElem? (i := 748) (by decide +kernel), List.mem_of_getElem? (i := 749) (by decide +kernel)⟩
theorem lw_p78 : lw_okq (⟨"StateVaultModel", "basedOn", "(I)I"⟩, 17) := ⟨⟨by decide +kernel, by decide +kernel⟩, List.mem_of_getElem? (i := 542) (by decide +kernel), List.mem_of_getElem? (i := 760) (by decide +kernel), List.mem_of_getElem? (i := 761) (by decide +kernel)⟩
theorem lw_p79 : lw_okq (⟨"StateVaultModel", "weights", "()I"⟩, 17) := ⟨⟨by decide +kernel, by decide +kernel⟩, List.mem_of_getElem? (i := 542) (by decide +kernel), List.mem_of_getElem? (i := 772) (by decide +kernel), List.mem_of_getElem? (i := 773) (by decide +kernel)⟩
def lw_privs_5 : List (MethodName × Nat) := [(⟨"StateVaultModel", "givesGame", "()V"⟩, 17), (⟨"StateVaultModel", "sumNow", "()I"⟩, 17), (⟨"StateVaultModel", "isNear", "()Z"⟩, 17), (⟨"StateVaultModel", "setsAside", "()V"⟩, 17), (⟨"StateVaultModel", "reads", "(I)Z"⟩, 17), (⟨"StateVaultModel", "climbs", "(I)V"⟩, 17), (⟨"StateVaultModel", "slotOf", "(I)I"⟩, 17), (⟨"StateVaultModel", "of", "(II)I"⟩, 17), (⟨"StateVaultModel", "isWhole", "(I)Z"⟩, 17), (⟨"StateVaultModel", "raisesTo", "(I)V"⟩, 17), (⟨"StateVaultModel", "differences", "(I)I"⟩, 17), (⟨"StateVaultModel", "put", "(III)V"⟩, 17), (⟨"StateVaultModel", "writesDifference", "(II)V"⟩, 17), (⟨"StateVaultModel", "writesWhole", "(I)V"⟩, 17), (⟨"StateVaultModel", "basedOn", "(I)I"⟩, 17), (⟨"StateVaultModel", "weights", "()I"⟩, 17)]
theorem lw_r5 : ∀ q ∈ lw_privs_5, lw_okq q := List.forall_mem_cons.mpr ⟨lw_p64, List.forall_mem_cons.mpr ⟨lw_p65, List.forall_mem_cons.mpr ⟨lw_p66, List.forall_mem_cons.mpr ⟨lw_p67, List.forall_mem_cons.mpr ⟨lw_p68, List.forall_mem_cons.mpr ⟨lw_p69, List.forall_mem_cons.mpr ⟨lw_p70, List.forall_mem_cons.mpr ⟨lw_p71, List.forall_mem_cons.mpr ⟨lw_p72, List.forall_mem_cons.mpr ⟨lw_p73, List.forall_mem_cons.mpr ⟨lw_p74, List.forall_mem_cons.mpr ⟨lw_p75, List.forall_mem_cons.mpr ⟨lw_p76, List.forall_mem_cons.mpr ⟨lw_p77, List.forall_mem_cons.mpr ⟨lw_p78, List.forall_mem_cons.mpr ⟨lw_p79, fun _ h => absurd h List.not_mem_nil⟩⟩⟩⟩⟩⟩⟩⟩⟩⟩⟩⟩⟩⟩⟩⟩
theorem lw_p80 : lw_okq (⟨"StateVaultModel", "weight", "(I)I"⟩, 17) := ⟨⟨by decide +kernel, by decide +kernel⟩, List.mem_of_getElem? (i := 542) (by decide +kernel), List.mem_of_getElem? (i := 776) (by decide +kernel), List.mem_of_getElem? (i := 777) (by decide +kernel)⟩
theorem lw_p81 : lw_okq (⟨"StateVaultModel", "nearestBase", "(I)I"⟩, 17) := ⟨⟨by decide +kernel, by decide +kernel⟩, List.mem_of_getElem? (i := 542) (by decide +kernel), List.mem_of_getElem? (i := 780) (by decide +kernel), List.mem_of_getElem? (i := 781) (by decide +kernel)⟩
theorem lw_p82 : lw_okq (⟨"StateVaultModel", "linksOf", "(I)I"⟩, 17) := ⟨⟨by decide +kernel, by decide +kernel⟩, List.mem_of_getElem? (i := 542) (by decide +kernel), List.mem_of_getElem? (i := 784) (by decide +kernel), List.mem_of_getElem? (i := 785) (by decide +kernel)⟩
theorem lw_p83 : lw_okq (⟨"StateVaultModel", "part", "(II)I"⟩, 17) := ⟨⟨by decide +kernel, by decide +kernel⟩, List.mem_of_getElem? (i := 542) (by decide +kernel), List.mem_of_getElem? (i := 800) (by decide +kernel), List.mem_of_getElem? (i := 801) (by decide +kernel)⟩
theorem lw_p84 : lw_okq (⟨"StateVaultModel", "isInChain", "(I)Z"⟩, 17) := ⟨⟨by decide +kernel, by decide +kernel⟩, List.mem_of_getElem? (i := 542) (by decide +kernel), List.mem_of_getElem? (i := 824) (by decide +kernel), List.mem_of_getElem? (i := 825) (by decide +kernel)⟩
theorem lw_p85 : lw_okq (⟨"StateVaultModel", "counts", "(I)I"⟩, 17) := ⟨⟨by decide +kernel, by decide +kernel⟩, List.mem_of_getElem? (i := 542) (by decide +kernel), List.mem_of_getElem? (i := 836) (by decide +kernel), List.mem_of_getElem? (i := 837) (by decide +kernel)⟩
theorem lw_p86 : lw_okq (⟨"StateVaultModel", "longest", "()I"⟩, 17) := ⟨⟨by decide +kernel, by decide +kernel⟩, List.mem_of_getElem? (i := 542) (by decide +kernel), List.mem_of_getElem? (i := 840) (by decide +kernel), List.mem_of_getElem? (i := 841) (by decide +kernel)⟩
theorem lw_p87 : lw_okq (⟨"StateVaultModel", "mixes", "(J)V"⟩, 17) := ⟨⟨by decide +kernel, by decide +kernel⟩, List.mem_of_getElem? (i := 542) (by decide +kernel), List.mem_of_getElem? (i := 850) (by decide +kernel), List.mem_of_getElem? (i := 851) (by decide +kernel)⟩
theorem lw_p88 : lw_okq (⟨"StateVaultModel", "mixesKept", "(I)V"⟩, 17) := ⟨⟨by decide +kernel, by decide +kernel⟩, List.mem_of_getElem? (i := 542) (by decide +kernel), List.mem_of_getElem? (i := 855) (by decide +kernel), List.mem_of_getElem? (i := 856) (by decide +kernel)⟩
def lw_privs_6 : List (MethodName × Nat) := [(⟨"StateVaultModel", "weight", "(I)I"⟩, 17), (⟨"StateVaultModel", "nearestBase", "(I)I"⟩, 17), (⟨"StateVaultModel", "linksOf", "(I)I"⟩, 17), (⟨"StateVaultModel", "part", "(II)I"⟩, 17), (⟨"StateVaultModel", "isInChain", "(I)Z"⟩, 17), (⟨"StateVaultModel", "counts", "(I)I"⟩, 17), (⟨"StateVaultModel", "longest", "()I"⟩, 17), (⟨"StateVaultModel", "mixes", "(J)V"⟩, 17), (⟨"StateVaultModel", "mixesKept", "(I)V"⟩, 17)]
theorem lw_r6 : ∀ q ∈ lw_privs_6, lw_okq q := List.forall_mem_cons.mpr ⟨lw_p80, List.forall_mem_cons.mpr ⟨lw_p81, List.forall_mem_cons.mpr ⟨lw_p82, List.forall_mem_cons.mpr ⟨lw_p83, List.forall_mem_cons.mpr ⟨lw_p84, List.forall_mem_cons.mpr ⟨lw_p85, List.forall_mem_cons.mpr ⟨lw_p86, List.forall_mem_cons.mpr ⟨lw_p87, List.forall_mem_cons.mpr ⟨lw_p88, fun _ h => absurd h List.not_mem_nil⟩⟩⟩⟩⟩⟩⟩⟩⟩
def lw_privs : List (MethodName × Nat) := lw_privs_1 ++ (lw_privs_2 ++ (lw_privs_3 ++ (lw_privs_4 ++ (lw_privs_5 ++ (lw_privs_6)))))
def lw_tbl : List Cond := k2_sels lw_privs ++ tables_1
theorem lw_privs_ok : ∀ q ∈ lw_privs, lw_okq q := by
  show ∀ q ∈ lw_privs_1 ++ (lw_privs_2 ++ (lw_privs_3 ++ (lw_privs_4 ++ (lw_privs_5 ++ (lw_privs_6))))), lw_okq q
  exact List.forall_mem_append.mpr ⟨lw_r1, List.forall_mem_append.mpr ⟨lw_r2, List.forall_mem_append.mpr ⟨lw_r3, List.forall_mem_append.mpr ⟨lw_r4, List.forall_mem_append.mpr ⟨lw_r5, lw_r6⟩⟩⟩⟩⟩
-- ===== end of PART A; then your names; then what follows =====
end
section
def RX0 : String := "StateVault$Kept"
def TX0 : u_T := fun k => match k with
  | 0 => ("StateVault$Kept", "number", "I", false)
  | 1 => ("StateVault$Kept", "form", "I", false)
  | 2 => ("StateVault$Kept", "sum", "I", false)
  | 3 => ("StateVault$Kept", "base", "I", false)
  | 4 => ("StateVault$Kept", "size", "I", false)
  | 5 => ("StateVault$Kept", "indexes", "[I", true)
  | _ => ("StateVault$Kept", "values", "[I", true)
def tyX0 : Nat → FieldType := fun k => match k with
  | 0 => .int
  | 1 => .int
  | 2 => .int
  | 3 => .int
  | 4 => .int
  | 5 => .array .int
  | _ => .array .int
abbrev wsX00 : List Cond := u_ws RX0 TX0 7
theorem nmX0 : ∀ a, a < 7 → ∀ b, b < 7 → a ≠ b → (TX0 a).2.1 ≠ (TX0 b).2.1 := by decide +kernel
theorem tyX0_ok : ∀ k, k < 7 → parseFieldDescriptor (TX0 k).2.2.1 = some (tyX0 k) := by decide +kernel
abbrev cX0_init : ByteArray := prog_2_method_1_code
def yX0_init : MethodName := ⟨RX0, "<init>", "()V"⟩
abbrev cX0_copyKept : ByteArray := prog_2_method_2_code
def yX0_copyKept : MethodName := ⟨RX0, "copyKept", "(LStateVault$Kept;)V"⟩
abbrev cX0_makeWhole : ByteArray := prog_2_method_3_code
def yX0_makeWhole : MethodName := ⟨RX0, "makeWhole", "([I)V"⟩
abbrev cX0_makeDifference : ByteArray := prog_2_method_4_code
def yX0_makeDifference : MethodName := ⟨RX0, "makeDifference", "(I[I[I)V"⟩
abbrev cX0_weight : ByteArray := prog_2_method_5_code
def yX0_weight : MethodName := ⟨RX0, "weight", "()I"⟩
def RX1 : String := "StateVault$Moment"
def TX1 : u_T := fun k => match k with
  | 0 => ("StateVault$Moment", "form", "I", false)
  | 1 => ("StateVault$Moment", "origin", "I", false)
  | 2 => ("StateVault$Moment", "came", "I", false)
  | 3 => ("StateVault$Moment", "size", "I", false)
  | 4 => ("StateVault$Moment", "values", "[I", true)
  | 5 => ("StateVault$Moment", "settings", "[I", true)
  | _ => ("StateVault$Moment", "places", "[LStateVault$Kept;", true)
def tyX1 : Nat → FieldType := fun k => match k with
  | 0 => .int
  | 1 => .int
  | 2 => .int
  | 3 => .int
  | 4 => .array .int
  | 5 => .array .int
  | _ => .array (.object "StateVault$Kept")
abbrev wsX10 : List Cond := u_ws RX1 TX1 7
theorem nmX1 : ∀ a, a < 7 → ∀ b, b < 7 → a ≠ b → (TX1 a).2.1 ≠ (TX1 b).2.1 := by decide +kernel
theorem tyX1_ok : ∀ k, k < 7 → parseFieldDescriptor (TX1 k).2.2.1 = some (tyX1 k) := by decide +kernel
abbrev cX1_init : ByteArray := prog_3_method_1_code
def yX1_init : MethodName := ⟨RX1, "<init>", "()V"⟩
abbrev cX1_copyFrom : ByteArray := prog_3_method_2_code
def yX1_copyFrom : MethodName := ⟨RX1, "copyFrom", "(LStateVault$Moment;)V"⟩
abbrev cX1_placeOf : ByteArray := prog_3_method_3_code
def yX1_placeOf : MethodName := ⟨RX1, "placeOf", "(I)I"⟩
abbrev cX1_baseOf : ByteArray := prog_3_method_4_code
def yX1_baseOf : MethodName := ⟨RX1, "baseOf", "(I)I"⟩
abbrev cX1_linksOf : ByteArray := prog_3_method_5_code
def yX1_linksOf : MethodName := ⟨RX1, "linksOf", "(I)I"⟩
abbrev cX1_longestChain : ByteArray := prog_3_method_6_code
def yX1_longestChain : MethodName := ⟨RX1, "longestChain", "()I"⟩
abbrev cX1_followersOf : ByteArray := prog_3_method_7_code
def yX1_followersOf : MethodName := ⟨RX1, "followersOf", "(I)I"⟩
abbrev cX1_wholeOnes : ByteArray := prog_3_method_8_code
def yX1_wholeOnes : MethodName := ⟨RX1, "wholeOnes", "()I"⟩
abbrev cX1_weight : ByteArray := prog_3_method_9_code
def yX1_weight : MethodName := ⟨RX1, "weight", "()I"⟩
abbrev cX1_removePlace : ByteArray := prog_3_method_10_code
def yX1_removePlace : MethodName := ⟨RX1, "removePlace", "(I)V"⟩
def RX2 : String := "StateVault$Reading"
def TX2 : u_T := fun k => match k with
  | 0 => ("StateVault$Reading", "found", "[[I", true)
  | _ => ("StateVault$Reading", "reasons", "[I", true)
def tyX2 : Nat → FieldType := fun k => match k with
  | 0 => .array (.array .int)
  | _ => .array .int
abbrev wsX20 : List Cond := u_ws RX2 TX2 2
theorem nmX2 : ∀ a, a < 2 → ∀ b, b < 2 → a ≠ b → (TX2 a).2.1 ≠ (TX2 b).2.1 := by decide +kernel
theorem tyX2_ok : ∀ k, k < 2 → parseFieldDescriptor (TX2 k).2.2.1 = some (tyX2 k) := by decide +kernel
abbrev cX2_init : ByteArray := prog_4_method_1_code
def yX2_init : MethodName := ⟨RX2, "<init>", "()V"⟩
abbrev cX2_readAll : ByteArray := prog_4_method_2_code
def yX2_readAll : MethodName := ⟨RX2, "readAll", "(LStateVault$Moment;)V"⟩
abbrev cX2_readPlace : ByteArray := prog_4_method_3_code
def yX2_readPlace : MethodName := ⟨RX2, "readPlace", "(LStateVault$Moment;I)I"⟩
def RX3 : String := "StateVault$Script"
def TX3 : u_T := fun k => match k with
  | 0 => ("StateVault$Script", "text", "[I", true)
  | 1 => ("StateVault$Script", "length", "I", false)
  | 2 => ("StateVault$Script", "values", "[I", true)
  | 3 => ("StateVault$Script", "size", "I", false)
  | 4 => ("StateVault$Script", "at", "I", false)
  | _ => ("StateVault$Script", "fault", "I", false)
def tyX3 : Nat → FieldType := fun k => match k with
  | 0 => .array .int
  | 1 => .int
  | 2 => .array .int
  | 3 => .int
  | 4 => .int
  | _ => .int
abbrev wsX30 : List Cond := u_ws RX3 TX3 6
theorem nmX3 : ∀ a, a < 6 → ∀ b, b < 6 → a ≠ b → (TX3 a).2.1 ≠ (TX3 b).2.1 := by decide +kernel
theorem tyX3_ok : ∀ k, k < 6 → parseFieldDescriptor (TX3 k).2.2.1 = some (tyX3 k) := by decide +kernel
abbrev cX3_init : ByteArray := prog_5_method_1_code
def yX3_init : MethodName := ⟨RX3, "<init>", "()V"⟩
abbrev cX3_run : ByteArray := prog_5_method_2_code
def yX3_run : MethodName := ⟨RX3, "run", "([II)I"⟩
abbrev cX3_runCommand : ByteArray := prog_5_method_3_code
def yX3_runCommand : MethodName := ⟨RX3, "runCommand", "(I)V"⟩
abbrev cX3_runSet : ByteArray := prog_5_method_4_code
def yX3_runSet : MethodName := ⟨RX3, "runSet", "()V"⟩
abbrev cX3_runAdd : ByteArray := prog_5_method_5_code
def yX3_runAdd : MethodName := ⟨RX3, "runAdd", "()V"⟩
abbrev cX3_runSwap : ByteArray := prog_5_method_6_code
def yX3_runSwap : MethodName := ⟨RX3, "runSwap", "()V"⟩
abbrev cX3_runFill : ByteArray := prog_5_method_7_code
def yX3_runFill : MethodName := ⟨RX3, "runFill", "()V"⟩
abbrev cX3_runTurn : ByteArray := prog_5_method_8_code
def yX3_runTurn : MethodName := ⟨RX3, "runTurn", "()V"⟩
abbrev cX3_failAt : ByteArray := prog_5_method_9_code
def yX3_failAt : MethodName := ⟨RX3, "failAt", "(I)V"⟩
abbrev cX3_isDigitNext : ByteArray := prog_5_method_10_code
def yX3_isDigitNext : MethodName := ⟨RX3, "isDigitNext", "()Z"⟩
abbrev cX3_isLetterNext : ByteArray := prog_5_method_11_code
def yX3_isLetterNext : MethodName := ⟨RX3, "isLetterNext", "()Z"⟩
abbrev cX3_isNext : ByteArray := prog_5_method_12_code
def yX3_isNext : MethodName := ⟨RX3, "isNext", "(I)Z"⟩
abbrev cX3_skipBlanks : ByteArray := prog_5_method_13_code
def yX3_skipBlanks : MethodName := ⟨RX3, "skipBlanks", "()V"⟩
abbrev cX3_takeWord : ByteArray := prog_5_method_14_code
def yX3_takeWord : MethodName := ⟨RX3, "takeWord", "()I"⟩
abbrev cX3_wordAt : ByteArray := prog_5_method_15_code
def yX3_wordAt : MethodName := ⟨RX3, "wordAt", "(I)I"⟩
abbrev cX3_isSpelled : ByteArray := prog_5_method_16_code
def yX3_isSpelled : MethodName := ⟨RX3, "isSpelled", "(Ljava/lang/String;I)Z"⟩
abbrev cX3_takeIndex : ByteArray := prog_5_method_17_code
def yX3_takeIndex : MethodName := ⟨RX3, "takeIndex", "(I)I"⟩
abbrev cX3_takeNumber : ByteArray := prog_5_method_18_code
def yX3_takeNumber : MethodName := ⟨RX3, "takeNumber", "()I"⟩
abbrev cX3_takeAmount : ByteArray := prog_5_method_19_code
def yX3_takeAmount : MethodName := ⟨RX3, "takeAmount", "()I"⟩
abbrev cX3_takeDigits : ByteArray := prog_5_method_20_code
def yX3_takeDigits : MethodName := ⟨RX3, "takeDigits", "()I"⟩
abbrev cX3_takeSemicolon : ByteArray := prog_5_method_21_code
def yX3_takeSemicolon : MethodName := ⟨RX3, "takeSemicolon", "()V"⟩
def RX4 : String := "StateVault"
def TX4 : u_T := fun k => match k with
  | 0 => ("StateVault", "now", "LStateVault$Moment;", true)
  | 1 => ("StateVault", "past", "[LStateVault$Moment;", true)
  | 2 => ("StateVault", "pastSize", "I", false)
  | 3 => ("StateVault", "script", "LStateVault$Script;", true)
  | 4 => ("StateVault", "reading", "LStateVault$Reading;", true)
  | 5 => ("StateVault", "first", "[I", true)
  | _ => ("StateVault", "second", "[I", true)
def tyX4 : Nat → FieldType := fun k => match k with
  | 0 => .object "StateVault$Moment"
  | 1 => .array (.object "StateVault$Moment")
  | 2 => .int
  | 3 => .object "StateVault$Script"
  | 4 => .object "StateVault$Reading"
  | 5 => .array .int
  | _ => .array .int
abbrev wsX40 : List Cond := u_ws RX4 TX4 7
theorem nmX4 : ∀ a, a < 7 → ∀ b, b < 7 → a ≠ b → (TX4 a).2.1 ≠ (TX4 b).2.1 := by decide +kernel
theorem tyX4_ok : ∀ k, k < 7 → parseFieldDescriptor (TX4 k).2.2.1 = some (tyX4 k) := by decide +kernel
abbrev cX4_init : ByteArray := prog_1_method_1_code
def yX4_init : MethodName := ⟨RX4, "<init>", "()V"⟩
abbrev cX4_type : ByteArray := prog_1_method_2_code
def yX4_type : MethodName := ⟨RX4, "type", "(I)I"⟩
abbrev cX4_clear : ByteArray := prog_1_method_3_code
def yX4_clear : MethodName := ⟨RX4, "clear", "()I"⟩
abbrev cX4_play : ByteArray := prog_1_method_4_code
def yX4_play : MethodName := ⟨RX4, "play", "()I"⟩
abbrev cX4_raise : ByteArray := prog_1_method_5_code
def yX4_raise : MethodName := ⟨RX4, "raise", "()I"⟩
abbrev cX4_keep : ByteArray := prog_1_method_6_code
def yX4_keep : MethodName := ⟨RX4, "keep", "()I"⟩
abbrev cX4_load : ByteArray := prog_1_method_7_code
def yX4_load : MethodName := ⟨RX4, "load", "(I)I"⟩
abbrev cX4_drop : ByteArray := prog_1_method_8_code
def yX4_drop : MethodName := ⟨RX4, "drop", "(IZ)I"⟩
abbrev cX4_alter : ByteArray := prog_1_method_9_code
def yX4_alter : MethodName := ⟨RX4, "alter", "(III)I"⟩
abbrev cX4_pack : ByteArray := prog_1_method_10_code
def yX4_pack : MethodName := ⟨RX4, "pack", "()I"⟩
abbrev cX4_set : ByteArray := prog_1_method_11_code
def yX4_set : MethodName := ⟨RX4, "set", "(II)I"⟩
abbrev cX4_undo : ByteArray := prog_1_method_12_code
def yX4_undo : MethodName := ⟨RX4, "undo", "()I"⟩
abbrev cX4_value : ByteArray := prog_1_method_13_code
def yX4_value : MethodName := ⟨RX4, "value", "(I)I"⟩
abbrev cX4_kept : ByteArray := prog_1_method_14_code
def yX4_kept : MethodName := ⟨RX4, "kept", "(II)I"⟩
abbrev cX4_entry : ByteArray := prog_1_method_15_code
def yX4_entry : MethodName := ⟨RX4, "entry", "(III)I"⟩
abbrev cX4_read : ByteArray := prog_1_method_16_code
def yX4_read : MethodName := ⟨RX4, "read", "(III)I"⟩
abbrev cX4_cause : ByteArray := prog_1_method_17_code
def yX4_cause : MethodName := ⟨RX4, "cause", "(III)I"⟩
abbrev cX4_apart : ByteArray := prog_1_method_18_code
def yX4_apart : MethodName := ⟨RX4, "apart", "(II)I"⟩
abbrev cX4_fork : ByteArray := prog_1_method_19_code
def yX4_fork : MethodName := ⟨RX4, "fork", "(II)I"⟩
abbrev cX4_nearest : ByteArray := prog_1_method_20_code
def yX4_nearest : MethodName := ⟨RX4, "nearest", "()I"⟩
abbrev cX4_count : ByteArray := prog_1_method_21_code
def yX4_count : MethodName := ⟨RX4, "count", "(I)I"⟩
abbrev cX4_digest : ByteArray := prog_1_method_22_code
def yX4_digest : MethodName := ⟨RX4, "digest", "()J"⟩
abbrev cX4_remember : ByteArray := prog_1_method_23_code
def yX4_remember : MethodName := ⟨RX4, "remember", "()V"⟩
abbrev cX4_baseForGame : ByteArray := prog_1_method_24_code
def yX4_baseForGame : MethodName := ⟨RX4, "baseForGame", "()I"⟩
abbrev cX4_canBeBase : ByteArray := prog_1_method_25_code
def yX4_canBeBase : MethodName := ⟨RX4, "canBeBase", "(II)Z"⟩
abbrev cX4_mendFollowers : ByteArray := prog_1_method_26_code
def yX4_mendFollowers : MethodName := ⟨RX4, "mendFollowers", "(I)V"⟩
abbrev cX4_packPlace : ByteArray := prog_1_method_27_code
def yX4_packPlace : MethodName := ⟨RX4, "packPlace", "(I)V"⟩
abbrev cX4_propertyOf : ByteArray := prog_1_method_28_code
def yX4_propertyOf : MethodName := ⟨RX4, "propertyOf", "(II)I"⟩
abbrev cX4_tally : ByteArray := prog_1_method_29_code
def yX4_tally : MethodName := ⟨RX4, "tally", "(I)I"⟩
abbrev cX4_unreadable : ByteArray := prog_1_method_30_code
def yX4_unreadable : MethodName := ⟨RX4, "unreadable", "()I"⟩
abbrev cX4_reasonOf : ByteArray := prog_1_method_31_code
def yX4_reasonOf : MethodName := ⟨RX4, "reasonOf", "(I)I"⟩
abbrev cX4_causeOf : ByteArray := prog_1_method_32_code
def yX4_causeOf : MethodName := ⟨RX4, "causeOf", "(III)I"⟩
abbrev cX4_nearestToGame : ByteArray := prog_1_method_33_code
def yX4_nearestToGame : MethodName := ⟨RX4, "nearestToGame", "()I"⟩
abbrev cX4_addPlace : ByteArray := prog_1_method_34_code
def yX4_addPlace : MethodName := ⟨RX4, "addPlace", "(JI)J"⟩
abbrev cX4_distance : ByteArray := prog_1_method_35_code
def yX4_distance : MethodName := ⟨RX4, "distance", "(II[I)I"⟩
abbrev cX4_raiseRead : ByteArray := prog_1_method_36_code
def yX4_raiseRead : MethodName := ⟨RX4, "raiseRead", "(II[I)V"⟩
abbrev cX4_sizeOf : ByteArray := prog_1_method_37_code
def yX4_sizeOf : MethodName := ⟨RX4, "sizeOf", "(I)I"⟩
abbrev cX4_sumOf : ByteArray := prog_1_method_38_code
def yX4_sumOf : MethodName := ⟨RX4, "sumOf", "([II)I"⟩
abbrev cX4_raiseValues : ByteArray := prog_1_method_39_code
def yX4_raiseValues : MethodName := ⟨RX4, "raiseValues", "([III)V"⟩
def RX5 : String := "StateVaultModel"
def TX5 : u_T := fun k => match k with
  | 0 => ("StateVaultModel", "m", "[I", true)
  | 1 => ("StateVaultModel", "past", "[I", true)
  | 2 => ("StateVaultModel", "undos", "I", false)
  | 3 => ("StateVaultModel", "v", "[I", true)
  | 4 => ("StateVaultModel", "form", "I", false)
  | 5 => ("StateVaultModel", "chain", "[I", true)
  | 6 => ("StateVaultModel", "reason", "[I", true)
  | 7 => ("StateVaultModel", "links", "I", false)
  | 8 => ("StateVaultModel", "w", "[I", true)
  | 9 => ("StateVaultModel", "text", "[I", true)
  | 10 => ("StateVaultModel", "textLength", "I", false)
  | 11 => ("StateVaultModel", "at", "I", false)
  | 12 => ("StateVaultModel", "fault", "I", false)
  | 13 => ("StateVaultModel", "command", "[I", true)
  | 14 => ("StateVaultModel", "commands", "I", false)
  | 15 => ("StateVaultModel", "isPacked", "[Z", true)
  | _ => ("StateVaultModel", "hash", "J", false)
def tyX5 : Nat → FieldType := fun k => match k with
  | 0 => .array .int
  | 1 => .array .int
  | 2 => .int
  | 3 => .array .int
  | 4 => .int
  | 5 => .array .int
  | 6 => .array .int
  | 7 => .int
  | 8 => .array .int
  | 9 => .array .int
  | 10 => .int
  | 11 => .int
  | 12 => .int
  | 13 => .array .int
  | 14 => .int
  | 15 => .array .boolean
  | _ => .long
abbrev wsX50 : List Cond := u_ws RX5 TX5 17
theorem nmX5 : ∀ a, a < 17 → ∀ b, b < 17 → a ≠ b → (TX5 a).2.1 ≠ (TX5 b).2.1 := by decide +kernel
theorem tyX5_ok : ∀ k, k < 17 → parseFieldDescriptor (TX5 k).2.2.1 = some (tyX5 k) := by decide +kernel
abbrev cX5_init : ByteArray := prog_7_method_1_code
def yX5_init : MethodName := ⟨RX5, "<init>", "()V"⟩
abbrev cX5_in : ByteArray := prog_7_method_2_code
def yX5_in : MethodName := ⟨RX5, "in", "(III)Z"⟩
abbrev cX5_valuesOf : ByteArray := prog_7_method_3_code
def yX5_valuesOf : MethodName := ⟨RX5, "valuesOf", "(I)I"⟩
abbrev cX5_of : ByteArray := prog_7_method_4_code
def yX5_of : MethodName := ⟨RX5, "of", "(II)I"⟩
abbrev cX5_put : ByteArray := prog_7_method_5_code
def yX5_put : MethodName := ⟨RX5, "put", "(III)V"⟩
abbrev cX5_isWhole : ByteArray := prog_7_method_6_code
def yX5_isWhole : MethodName := ⟨RX5, "isWhole", "(I)Z"⟩
abbrev cX5_keeps : ByteArray := prog_7_method_7_code
def yX5_keeps : MethodName := ⟨RX5, "keeps", "()V"⟩
abbrev cX5_undo : ByteArray := prog_7_method_8_code
def yX5_undo : MethodName := ⟨RX5, "undo", "()I"⟩
abbrev cX5_slotOf : ByteArray := prog_7_method_9_code
def yX5_slotOf : MethodName := ⟨RX5, "slotOf", "(I)I"⟩
abbrev cX5_raises : ByteArray := prog_7_method_10_code
def yX5_raises : MethodName := ⟨RX5, "raises", "()V"⟩
abbrev cX5_raisesTo : ByteArray := prog_7_method_11_code
def yX5_raisesTo : MethodName := ⟨RX5, "raisesTo", "(I)V"⟩
abbrev cX5_sumNow : ByteArray := prog_7_method_12_code
def yX5_sumNow : MethodName := ⟨RX5, "sumNow", "()I"⟩
abbrev cX5_takesGame : ByteArray := prog_7_method_13_code
def yX5_takesGame : MethodName := ⟨RX5, "takesGame", "()V"⟩
abbrev cX5_givesGame : ByteArray := prog_7_method_14_code
def yX5_givesGame : MethodName := ⟨RX5, "givesGame", "()V"⟩
abbrev cX5_climbs : ByteArray := prog_7_method_15_code
def yX5_climbs : MethodName := ⟨RX5, "climbs", "(I)V"⟩
abbrev cX5_reads : ByteArray := prog_7_method_16_code
def yX5_reads : MethodName := ⟨RX5, "reads", "(I)Z"⟩
abbrev cX5_linksOf : ByteArray := prog_7_method_17_code
def yX5_linksOf : MethodName := ⟨RX5, "linksOf", "(I)I"⟩
abbrev cX5_setsAside : ByteArray := prog_7_method_18_code
def yX5_setsAside : MethodName := ⟨RX5, "setsAside", "()V"⟩
abbrev cX5_differences : ByteArray := prog_7_method_19_code
def yX5_differences : MethodName := ⟨RX5, "differences", "(I)I"⟩
abbrev cX5_writesWhole : ByteArray := prog_7_method_20_code
def yX5_writesWhole : MethodName := ⟨RX5, "writesWhole", "(I)V"⟩
abbrev cX5_writesDifference : ByteArray := prog_7_method_21_code
def yX5_writesDifference : MethodName := ⟨RX5, "writesDifference", "(II)V"⟩
abbrev cX5_type : ByteArray := prog_7_method_22_code
def yX5_type : MethodName := ⟨RX5, "type", "(I)I"⟩
abbrev cX5_clear : ByteArray := prog_7_method_23_code
def yX5_clear : MethodName := ⟨RX5, "clear", "()I"⟩
abbrev cX5_next : ByteArray := prog_7_method_24_code
def yX5_next : MethodName := ⟨RX5, "next", "()I"⟩
abbrev cX5_isDigit : ByteArray := prog_7_method_25_code
def yX5_isDigit : MethodName := ⟨RX5, "isDigit", "()Z"⟩
abbrev cX5_skips : ByteArray := prog_7_method_26_code
def yX5_skips : MethodName := ⟨RX5, "skips", "()V"⟩
abbrev cX5_fails : ByteArray := prog_7_method_27_code
def yX5_fails : MethodName := ⟨RX5, "fails", "(I)V"⟩
abbrev cX5_number : ByteArray := prog_7_method_28_code
def yX5_number : MethodName := ⟨RX5, "number", "(II)I"⟩
abbrev cX5_amount : ByteArray := prog_7_method_29_code
def yX5_amount : MethodName := ⟨RX5, "amount", "()I"⟩
abbrev cX5_isWord : ByteArray := prog_7_method_30_code
def yX5_isWord : MethodName := ⟨RX5, "isWord", "(III)Z"⟩
abbrev cX5_wordOf : ByteArray := prog_7_method_31_code
def yX5_wordOf : MethodName := ⟨RX5, "wordOf", "(I)I"⟩
abbrev cX5_readsCommand : ByteArray := prog_7_method_32_code
def yX5_readsCommand : MethodName := ⟨RX5, "readsCommand", "()V"⟩
abbrev cX5_readsScript : ByteArray := prog_7_method_33_code
def yX5_readsScript : MethodName := ⟨RX5, "readsScript", "()V"⟩
abbrev cX5_turns : ByteArray := prog_7_method_34_code
def yX5_turns : MethodName := ⟨RX5, "turns", "(II)V"⟩
abbrev cX5_does : ByteArray := prog_7_method_35_code
def yX5_does : MethodName := ⟨RX5, "does", "(I)V"⟩
abbrev cX5_play : ByteArray := prog_7_method_36_code
def yX5_play : MethodName := ⟨RX5, "play", "()I"⟩
abbrev cX5_raise : ByteArray := prog_7_method_37_code
def yX5_raise : MethodName := ⟨RX5, "raise", "()I"⟩
abbrev cX5_isNear : ByteArray := prog_7_method_38_code
def yX5_isNear : MethodName := ⟨RX5, "isNear", "()Z"⟩
abbrev cX5_keep : ByteArray := prog_7_method_39_code
def yX5_keep : MethodName := ⟨RX5, "keep", "()I"⟩
abbrev cX5_load : ByteArray := prog_7_method_40_code
def yX5_load : MethodName := ⟨RX5, "load", "(I)I"⟩
abbrev cX5_basedOn : ByteArray := prog_7_method_41_code
def yX5_basedOn : MethodName := ⟨RX5, "basedOn", "(I)I"⟩
abbrev cX5_drop : ByteArray := prog_7_method_42_code
def yX5_drop : MethodName := ⟨RX5, "drop", "(IZ)I"⟩
abbrev cX5_alter : ByteArray := prog_7_method_43_code
def yX5_alter : MethodName := ⟨RX5, "alter", "(III)I"⟩
abbrev cX5_weight : ByteArray := prog_7_method_44_code
def yX5_weight : MethodName := ⟨RX5, "weight", "(I)I"⟩
abbrev cX5_weights : ByteArray := prog_7_method_45_code
def yX5_weights : MethodName := ⟨RX5, "weights", "()I"⟩
abbrev cX5_nearestBase : ByteArray := prog_7_method_46_code
def yX5_nearestBase : MethodName := ⟨RX5, "nearestBase", "(I)I"⟩
abbrev cX5_pack : ByteArray := prog_7_method_47_code
def yX5_pack : MethodName := ⟨RX5, "pack", "()I"⟩
abbrev cX5_set : ByteArray := prog_7_method_48_code
def yX5_set : MethodName := ⟨RX5, "set", "(II)I"⟩
abbrev cX5_value : ByteArray := prog_7_method_49_code
def yX5_value : MethodName := ⟨RX5, "value", "(I)I"⟩
abbrev cX5_part : ByteArray := prog_7_method_50_code
def yX5_part : MethodName := ⟨RX5, "part", "(II)I"⟩
abbrev cX5_kept : ByteArray := prog_7_method_51_code
def yX5_kept : MethodName := ⟨RX5, "kept", "(II)I"⟩
abbrev cX5_entry : ByteArray := prog_7_method_52_code
def yX5_entry : MethodName := ⟨RX5, "entry", "(III)I"⟩
abbrev cX5_read : ByteArray := prog_7_method_53_code
def yX5_read : MethodName := ⟨RX5, "read", "(III)I"⟩
abbrev cX5_cause : ByteArray := prog_7_method_54_code
def yX5_cause : MethodName := ⟨RX5, "cause", "(III)I"⟩
abbrev cX5_apart : ByteArray := prog_7_method_55_code
def yX5_apart : MethodName := ⟨RX5, "apart", "(II)I"⟩
abbrev cX5_isInChain : ByteArray := prog_7_method_56_code
def yX5_isInChain : MethodName := ⟨RX5, "isInChain", "(I)Z"⟩
abbrev cX5_fork : ByteArray := prog_7_method_57_code
def yX5_fork : MethodName := ⟨RX5, "fork", "(II)I"⟩
abbrev cX5_nearest : ByteArray := prog_7_method_58_code
def yX5_nearest : MethodName := ⟨RX5, "nearest", "()I"⟩
abbrev cX5_counts : ByteArray := prog_7_method_59_code
def yX5_counts : MethodName := ⟨RX5, "counts", "(I)I"⟩
abbrev cX5_longest : ByteArray := prog_7_method_60_code
def yX5_longest : MethodName := ⟨RX5, "longest", "()I"⟩
abbrev cX5_count : ByteArray := prog_7_method_61_code
def yX5_count : MethodName := ⟨RX5, "count", "(I)I"⟩
abbrev cX5_mixes : ByteArray := prog_7_method_62_code
def yX5_mixes : MethodName := ⟨RX5, "mixes", "(J)V"⟩
abbrev cX5_mixesKept : ByteArray := prog_7_method_63_code
def yX5_mixesKept : MethodName := ⟨RX5, "mixesKept", "(I)V"⟩
abbrev cX5_digest : ByteArray := prog_7_method_64_code
def yX5_digest : MethodName := ⟨RX5, "digest", "()J"⟩
def RJ9 : String := "java/lang/Math"
def TJ9 : u_T := fun k => match k with
  | _ => ("", "", "", false)
def tyJ9 : Nat → FieldType := fun k => match k with
  | _ => .int
abbrev wsJ90 : List Cond := u_ws RJ9 TJ9 0
theorem nmJ9 : ∀ a, a < 0 → ∀ b, b < 0 → a ≠ b → (TJ9 a).2.1 ≠ (TJ9 b).2.1 := by decide +kernel
theorem tyJ9_ok : ∀ k, k < 0 → parseFieldDescriptor (TJ9 k).2.2.1 = some (tyJ9 k) := by decide +kernel
abbrev cJ9_max_7cf53 : ByteArray := prog_8_method_65_code
def yJ9_max_7cf53 : MethodName := ⟨RJ9, "max", "(II)I"⟩
abbrev cJ9_min_7cf53 : ByteArray := prog_8_method_69_code
def yJ9_min_7cf53 : MethodName := ⟨RJ9, "min", "(II)I"⟩
def RJ0 : String := "java/lang/String"
def TJ0 : u_T := fun k => match k with
  | _ => ("", "", "", false)
def tyJ0 : Nat → FieldType := fun k => match k with
  | _ => .int
abbrev wsJ00 : List Cond := u_ws RJ0 TJ0 0
theorem nmJ0 : ∀ a, a < 0 → ∀ b, b < 0 → a ≠ b → (TJ0 a).2.1 ≠ (TJ0 b).2.1 := by decide +kernel
theorem tyJ0_ok : ∀ k, k < 0 → parseFieldDescriptor (TJ0 k).2.2.1 = some (tyJ0 k) := by decide +kernel
abbrev cJ0_length_8abf5 : ByteArray := prog_9_method_54_code
def yJ0_length_8abf5 : MethodName := ⟨RJ0, "length", "()I"⟩
abbrev cJ0_charAt_5068e : ByteArray := prog_9_method_56_code
def yJ0_charAt_5068e : MethodName := ⟨RJ0, "charAt", "(I)C"⟩
abbrev cJ0_coder_7d493 : ByteArray := prog_9_method_152_code
def yJ0_coder_7d493 : MethodName := ⟨RJ0, "coder", "()B"⟩
abbrev cJ0_isLatin1_aae02 : ByteArray := prog_9_method_154_code
def yJ0_isLatin1_aae02 : MethodName := ⟨RJ0, "isLatin1", "()Z"⟩
abbrev cJ0_checkIndex_df160 : ByteArray := prog_9_method_155_code
def yJ0_checkIndex_df160 : MethodName := ⟨RJ0, "checkIndex", "(II)V"⟩
def RJ1 : String := "java/lang/StringLatin1"
def TJ1 : u_T := fun k => match k with
  | _ => ("", "", "", false)
def tyJ1 : Nat → FieldType := fun k => match k with
  | _ => .int
abbrev wsJ10 : List Cond := u_ws RJ1 TJ1 0
theorem nmJ1 : ∀ a, a < 0 → ∀ b, b < 0 → a ≠ b → (TJ1 a).2.1 ≠ (TJ1 b).2.1 := by decide +kernel
theorem tyJ1_ok : ∀ k, k < 0 → parseFieldDescriptor (TJ1 k).2.2.1 = some (tyJ1 k) := by decide +kernel
abbrev cJ1_charAt_3b067 : ByteArray := prog_10_method_2_code
def yJ1_charAt_3b067 : MethodName := ⟨RJ1, "charAt", "([BI)C"⟩
def RJ2 : String := "java/lang/StringUTF16"
def TJ2 : u_T := fun k => match k with
  | _ => ("", "", "", false)
def tyJ2 : Nat → FieldType := fun k => match k with
  | _ => .int
abbrev wsJ20 : List Cond := u_ws RJ2 TJ2 0
theorem nmJ2 : ∀ a, a < 0 → ∀ b, b < 0 → a ≠ b → (TJ2 a).2.1 ≠ (TJ2 b).2.1 := by decide +kernel
theorem tyJ2_ok : ∀ k, k < 0 → parseFieldDescriptor (TJ2 k).2.2.1 = some (tyJ2 k) := by decide +kernel
abbrev cJ2_getChar_3b067 : ByteArray := prog_11_method_5_code
def yJ2_getChar_3b067 : MethodName := ⟨RJ2, "getChar", "([BI)C"⟩
abbrev cJ2_length_9d52b : ByteArray := prog_11_method_6_code
def yJ2_length_9d52b : MethodName := ⟨RJ2, "length", "([B)I"⟩
abbrev cJ2_charAt_3b067 : ByteArray := prog_11_method_83_code
def yJ2_charAt_3b067 : MethodName := ⟨RJ2, "charAt", "([BI)C"⟩
abbrev cJ2_checkIndex_2214a : ByteArray := prog_11_method_91_code
def yJ2_checkIndex_2214a : MethodName := ⟨RJ2, "checkIndex", "(I[B)V"⟩
def RJ10 : String := "java/lang/System"
def TJ10 : u_T := fun k => match k with
  | _ => ("", "", "", false)
def tyJ10 : Nat → FieldType := fun k => match k with
  | _ => .int
abbrev wsJ100 : List Cond := u_ws RJ10 TJ10 0
theorem nmJ10 : ∀ a, a < 0 → ∀ b, b < 0 → a ≠ b → (TJ10 a).2.1 ≠ (TJ10 b).2.1 := by decide +kernel
theorem tyJ10_ok : ∀ k, k < 0 → parseFieldDescriptor (TJ10 k).2.2.1 = some (tyJ10 k) := by decide +kernel
def RJ3 : String := "jdk/internal/util/Preconditions"
def TJ3 : u_T := fun k => match k with
  | _ => ("", "", "", false)
def tyJ3 : Nat → FieldType := fun k => match k with
  | _ => .int
abbrev wsJ30 : List Cond := u_ws RJ3 TJ3 0
theorem nmJ3 : ∀ a, a < 0 → ∀ b, b < 0 → a ≠ b → (TJ3 a).2.1 ≠ (TJ3 b).2.1 := by decide +kernel
theorem tyJ3_ok : ∀ k, k < 0 → parseFieldDescriptor (TJ3 k).2.2.1 = some (tyJ3 k) := by decide +kernel
abbrev cJ3_checkIndex_8e157 : ByteArray := prog_13_method_11_code
def yJ3_checkIndex_8e157 : MethodName := ⟨RJ3, "checkIndex", "(IILjava/util/function/BiFunction;)I"⟩
def RL : String := "StateVaultLaw"
abbrev cL_law : ByteArray := code
def yL_law : MethodName := ⟨RL, "law", "([I)Z"⟩
abbrev vwCl : List vw_C := [(RX0, TX0, 7), (RX1, TX1, 7), (RX2, TX2, 2), (RX3, TX3, 6), (RX4, TX4, 7), (RX5, TX5, 17)]

set_option maxRecDepth 20000 in
theorem inX0 : ∀ w ∈ wsX00, w ∈ lw_tbl := by decide +kernel
set_option maxRecDepth 20000 in
theorem inX1 : ∀ w ∈ wsX10, w ∈ lw_tbl := by decide +kernel
set_option maxRecDepth 20000 in
theorem inX2 : ∀ w ∈ wsX20, w ∈ lw_tbl := by decide +kernel
set_option maxRecDepth 20000 in
theorem inX3 : ∀ w ∈ wsX30, w ∈ lw_tbl := by decide +kernel
set_option maxRecDepth 20000 in
theorem inX4 : ∀ w ∈ wsX40, w ∈ lw_tbl := by decide +kernel
set_option maxRecDepth 20000 in
theorem inX5 : ∀ w ∈ wsX50, w ∈ lw_tbl := by decide +kernel
end
section
/-! the two objects' cells by places: the place i is the address (base + i) -/
abbrev sv_V : Type := Int ⊕ Option Nat ⊕ (Int64 ⊕ Nat)
abbrev sv_F : Type := Nat → Int → Int
abbrev sv_R : Type := Nat → Int → Option Nat
abbrev sv_G : Type := Nat → Int → Int64
abbrev sv_S : Type := Nat × (Nat → Nat × Nat)
/-- base; the classes' table; the arrays' classes; the script: address, length, ints; the five texts' addresses and their bytes' -/
abbrev sv_X : Type := Nat × va_G × (Nat → ClassId) × (Nat × Nat × (Nat → Int32)) × (Nat → Nat) × (Nat → Nat)
abbrev sv_M : Type := MethodName × ByteArray × Nat × Option FieldType
abbrev sv_L : Type := List (Option sv_V)
abbrev sv_in (a : Int) : Prop := -2147483648 ≤ a ∧ a ≤ 2147483647
abbrev sv_i (a : Int) : sv_V := .inl a
abbrev sv_r (i : Nat) : sv_V := .inr (.inl (some i))
abbrev sv_n : sv_V := .inr (.inl none)
abbrev sv_l (x : Int64) : sv_V := .inr (.inr (.inl x))
abbrev sv_w (a : Nat) : sv_V := .inr (.inr (.inr a))
def sv_cv (b : Nat) (v : sv_V) : Value := match v with
  | .inl a => .int (Int32.ofInt a)
  | .inr (.inl o) => va_rf (o.map (b + ·))
  | .inr (.inr (.inl x)) => .long x
  | .inr (.inr (.inr a)) => .ref a
def sv_ty (ci k : Nat) : FieldType := match ci with
  | 0 => tyX0 k
  | 1 => tyX1 k
  | 2 => tyX2 k
  | 3 => tyX3 k
  | 4 => tyX4 k
  | _ => tyX5 k
def sv_cn (ci : Nat) : Nat := match ci with
  | 0 => 7
  | 1 => 7
  | 2 => 2
  | 3 => 6
  | 4 => 7
  | _ => 17
def sv_fv (b : Nat) (ty : FieldType) (a : Int) (o : Option Nat) (x : Int64) : Value := match ty with
  | .int => .int (Int32.ofInt a)
  | .long => .long x
  | _ => va_rf (o.map (b + ·))
def sv_fs (b ci : Nat) (fi : Int → Int) (ri : Int → Option Nat) (gi : Int → Int64) : List Value := (List.range (sv_cn ci)).map (fun k => sv_fv b (sv_ty ci k) (fi k) (ri k) (gi k))
def sv_e (X : sv_X) (kn : Nat × Nat) (fi : Int → Int) (ri : Int → Option Nat) (gi : Int → Int64) : va_E :=
  if kn.1 < 6 then .inr (kn.1, sv_fs X.1 kn.1 fi ri gi)
  else if kn.1 < 8 then .inl (X.2.2.1 (kn.1 - 6), kn.2, .inl (fun j => Int32.ofInt (fi (j : Int))))
  else .inl (X.2.2.1 (kn.1 - 6), kn.2, .inr (.inr (.inr (.inr (fun j => (ri (j : Int)).map (X.1 + ·))))))
def sv_tys (X : sv_X) : List (ClassId × FieldType) := [(X.2.2.1 0, .int), (X.2.2.1 1, .boolean), (X.2.2.1 2, .object "StateVault$Kept"), (X.2.2.1 3, .object "StateVault$Moment"), (X.2.2.1 4, .array .int)]
def sv_ws (X : sv_X) (S : sv_S) (f : sv_F) (r : sv_R) (g : sv_G) : va_W := (List.range S.1).map (fun i => (X.1 + i, sv_e X (S.2 i) (f i) (r i) (g i)))
theorem sv_ws_get {X : sv_X} {S : sv_S} {f : sv_F} {r : sv_R} {g : sv_G} {i : Nat} (h : i < S.1) : (sv_ws X S f r g)[i]? = some (X.1 + i, sv_e X (S.2 i) (f i) (r i) (g i)) := by
  simp [sv_ws, List.getElem?_map, List.getElem?_range h]
theorem sv_ws_none {X : sv_X} {S : sv_S} {f : sv_F} {r : sv_R} {g : sv_G} {i : Nat} (h : ¬ i < S.1) : (sv_ws X S f r g)[i]? = none := by
  simp [sv_ws]; omega
theorem sv_ws_len {X : sv_X} {S : sv_S} {f : sv_F} {r : sv_R} {g : sv_G} : (sv_ws X S f r g).length = S.1 := by simp [sv_ws]
theorem sv_ws_set {X : sv_X} {S : sv_S} {f f' : sv_F} {r r' : sv_R} {g g' : sv_G} {i : Nat} {e : va_E} (he : i < S.1 → e = sv_e X (S.2 i) (f' i) (r' i) (g' i)) (hf : ∀ j, j ≠ i → f' j = f j) (hr : ∀ j, j ≠ i → r' j = r j) (hg : ∀ j, j ≠ i → g' j = g j) :
    (sv_ws X S f r g).set i (X.1 + i, e) = sv_ws X S f' r' g' := by
  apply List.ext_getElem?
  intro j
  by_cases hj : j < S.1
  · by_cases hij : j = i
    · subst hij
      rw [List.getElem?_set_self (by rw [sv_ws_len]; exact hj), sv_ws_get hj, he hj]
    · rw [List.getElem?_set_ne (Ne.symm hij), sv_ws_get hj, sv_ws_get hj, hf j hij, hr j hij, hg j hij]
  · rw [sv_ws_none hj, List.getElem?_eq_none (by rw [List.length_set, sv_ws_len]; omega)]
theorem sv_ws_D {X : sv_X} {S : sv_S} {f : sv_F} {r : sv_R} {g : sv_G} : va_D (fun q : Nat => X.1 ≤ q) (sv_ws X S f r g) := by
  have key : ∀ (k : Nat) (q : Nat × va_E), (sv_ws X S f r g)[k]? = some q → q.1 = X.1 + k := by
    intro k q h
    by_cases hk : k < S.1
    · rw [sv_ws_get hk] at h
      rw [← Option.some.inj h]
    · rw [sv_ws_none hk] at h
      cases h
  refine ⟨fun i j p q hi hj hpq => ?_, fun k q h => ?_⟩
  · have h1 := key i p hi
    have h2 := key j q hj
    omega
  · have h1 := key k q h
    show X.1 ≤ q.1
    omega
/-- the heap holds the cells -/
def sv_P (X : sv_X) (S : sv_S) (f : sv_F) (r : sv_R) (g : sv_G) (H : Heap) : Prop := va_P X.2.1 vwCl (sv_ws X S f r g) H ∧ H.size = X.1 + S.1 ∧ (∀ i j, sv_in (f i j)) ∧ ∀ i, (S.2 i).2 ≤ 100000
def sv_lens : List Nat := [3, 3, 4, 4, 4]
def sv_byts : List (List Int32) := [[115, 101, 116], [97, 100, 100], [115, 119, 97, 112], [102, 105, 108, 108], [116, 117, 114, 110]]
def sv_txt (i : Nat) : Nat × String := match i with
  | 0 => (95, "set")
  | 1 => (101, "add")
  | 2 => (103, "swap")
  | 3 => (105, "fill")
  | _ => (107, "turn")
/-- what lies below the base and stays -/
def sv_O (X : sv_X) (U : State) (H : Heap) : Prop := (va_X X.2.2.2.1.1 X.2.2.2.1.2.1 X.2.2.2.1.2.2 U H ∧ X.2.2.2.1.1 < X.1 ∧ X.2.2.2.1.2.1 ≤ 2048 ∧ X.2.2.2.1.1 < H.size) ∧ vk_S 5 sv_lens sv_byts X.2.2.2.2.1 X.2.2.2.2.2 (fun q => X.1 ≤ q) U H ∧ (∀ i, i < 5 → vk_R "StateVault$Script" (sv_txt i).1 (sv_txt i).2 (X.2.2.2.2.1 i) U) ∧ va_Z "java/lang/String" "COMPACT_STRINGS" "Z" (.int 1) (fun q => X.1 ≤ q) U H ∧ ∃ q : Nat, va_Z "jdk/internal/util/Preconditions" "SIOOBE_FORMATTER" "Ljava/util/function/BiFunction;" (.ref q) (fun q => X.1 ≤ q) U H
def sv_ok (w : Cond) : Bool := (w.onTables && w.keeps) || match w with
  | .fieldLinkNest _ _ _ _ _ _ => true
  | .methodLinkNest _ _ _ _ => true
  | .arrayClass _ => true
  | _ => false
def sv_W (U : State) : Prop := ∀ w ∈ lw_tbl, sv_ok w = true → w.before #[] U = true
theorem sv_W.go {s U : State} (h : sv_W s) (hW : s.WarmedH U.vm) {A : Array Value} {w : Cond} (hw : w ∈ lw_tbl) (ho : sv_ok w = true) : w.before A U = true := by
  have h0 := h w hw ho
  unfold sv_ok at ho
  rcases Bool.or_eq_true _ _ ▸ ho with h1 | h1
  · exact word_at hW (Or.inl h1) h0
  · cases w with
    | fieldLinkNest a i b n d h' => exact (va_Nw.warmF hW h0).use rfl
    | methodLinkNest a i x h' => exact (va_Nw.warmM hW h0).use rfl
    | arrayClass ty => exact word_at hW (Or.inr ⟨_, rfl⟩) h0
    | _ => simp at h1
theorem sv_W.use {s : State} (h : sv_W s) {A : Array Value} {w : Cond} (hw : w ∈ lw_tbl) (ho : sv_ok w = true) : w.before A s = true := h.go (State.WarmedH.refl s) hw ho
theorem sv_W.moved {s U : State} (h : sv_W s) (hW : s.WarmedH U.vm) : sv_W U := fun _ hw ho => h.go hW hw ho
theorem sv_O.kept {X : sv_X} {U : State} {H H1 : Heap} (h : sv_O X U H) (hz : H.size ≤ H1.size) (hq : ∀ a : Nat, a < H.size → ¬ X.1 ≤ a → H1[a]? = H[a]?) : sv_O X U H1 := by
  obtain ⟨⟨h1, h2, h3, h4⟩, h5, h6, h7, q, h8⟩ := h
  exact ⟨⟨h1.kept (hq _ h4 (by omega)), h2, h3, by omega⟩, h5.kept hq, h6, h7.kept hq, q, h8.kept hq⟩
theorem sv_O.moved {X : sv_X} {s U : State} {H : Heap} (h : sv_O X s H) (hW : s.WarmedH U.vm) : sv_O X U H := by
  obtain ⟨⟨h1, h2, h3, h4⟩, h5, h6, h7, q, h8⟩ := h
  exact ⟨⟨h1.moved hW.alike, h2, h3, h4⟩, h5.moved hW.alike, fun i hi => (h6 i hi).warm hW, h7.moved hW.alike, q, h8.moved hW.alike⟩
/-- what every method is told of the machine -/
def sv_K (X : sv_X) (U : State) (H : Heap) : Prop := sv_W U ∧ va_K X.2.1 vwCl (sv_tys X) U ∧ sv_O X U H ∧ va_AO "StateVault$Kept" U ∧ va_AO "StateVault$Moment" U
theorem sv_K.moved {X : sv_X} {s U : State} {H : Heap} (h : sv_K X s H) (hW : s.WarmedH U.vm) : sv_K X U H := ⟨h.1.moved hW, h.2.1.moved hW.alike, h.2.2.1.moved hW, h.2.2.2.1.moved hW.alike, h.2.2.2.2.moved hW.alike⟩
theorem sv_K.kept {X : sv_X} {s : State} {H H1 : Heap} (h : sv_K X s H) (hz : H.size ≤ H1.size) (hq : ∀ a : Nat, a < H.size → ¬ X.1 ≤ a → H1[a]? = H[a]?) : sv_K X s H1 := ⟨h.1, h.2.1, h.2.2.1.kept hz hq, h.2.2.2⟩
/-- the locals -/
def sv_H (b : Nat) (la : Array Slot) (nL : Nat) (ls : sv_L) : Prop := la.size = nL ∧ lv_wf la ∧ ∀ (i : Nat) (v : sv_V), ls[i]? = some (some v) → la[i]? = some (.val (sv_cv b v))
def sv_Fx (X : sv_X) (M : sv_M) (p : Program) (s : State) (m : MethodId) (meth : Method) (c : Code) : Prop := p.tables.exec = Jvm.exec ∧ c.code = M.2.1 ∧ meth.sig.returnType = M.2.2.2 ∧ c.maxLocals = M.2.2.1 ∧ s.vm.findClass M.1.cls = some m.cls ∧ meth.locks = false ∧ meth.name = M.1.name ∧ sv_K X s s.heap ∧ X.1 ≤ s.heap.size
abbrev sv_Z : Type := List Frame → Array Value → State → State → Prop
def sv_T (X : sv_X) (R : Room) (M : sv_M) (Z : sv_Z) (kc ks : Nat) (pc : Nat) (ls : sv_L) (st : List sv_V) (S : sv_S) (f : sv_F) (r : sv_R) (g : sv_G) : Prop :=
  ∀ (p : Program) (l : Launch) (e : Env) (s : State) (m : MethodId) (args : Array Value) (below : List Frame) (meth : Method) (c : Code) (H : Heap) (locs : List Loc) (la : Array Slot), sv_Fx X M p s m meth c → sv_P X S f r g H → va_S (fun q => X.1 ≤ q) s.heap H locs → sv_H X.1 la M.2.2.1 ls →
    W p l e R s m args below meth c H locs kc ks (Z below args s) (F0 m pc la (st.map (sv_cv X.1)))
end
section
section SVROWS
variable {X : sv_X} {R : Room} {M : sv_M} {Z : sv_Z} {kc ks : Nat} {pc : Nat} {ls : sv_L} {st : List sv_V} {S : sv_S} {f : sv_F} {r : sv_R} {g : sv_G}
theorem sv_iconst {n : Int} (hd : decode M.2.1 pc = .ok (.iconst n, 1)) (k : sv_T X R M Z kc ks (pc + 1) ls (sv_i n :: st) S f r g) : sv_T X R M Z kc ks pc ls st S f r g := by
  intro p l e s m args below meth c H locs la hF hP hS hH
  exact lv_iconst hF.1 hF.2.1 hd rfl (k p l e s m args below meth c H locs la hF hP hS hH)
theorem sv_bipush {n : Int} (hd : decode M.2.1 pc = .ok (.bipush n, 2)) (hv : (Int8.ofInt n).toInt32 = Int32.ofInt n) (k : sv_T X R M Z kc ks (pc + 2) ls (sv_i n :: st) S f r g) : sv_T X R M Z kc ks pc ls st S f r g := by
  intro p l e s m args below meth c H locs la hF hP hS hH
  exact lv_bipush hF.1 hF.2.1 hd hv (k p l e s m args below meth c H locs la hF hP hS hH)
theorem sv_sipush {n : Int} (hd : decode M.2.1 pc = .ok (.sipush n, 3)) (hv : (Int16.ofInt n).toInt32 = Int32.ofInt n) (k : sv_T X R M Z kc ks (pc + 3) ls (sv_i n :: st) S f r g) : sv_T X R M Z kc ks pc ls st S f r g := by
  intro p l e s m args below meth c H locs la hF hP hS hH
  exact lv_sipush hF.1 hF.2.1 hd hv (k p l e s m args below meth c H locs la hF hP hS hH)
theorem sv_ldc {n : Int} {i : Nat} (hd : decode M.2.1 pc = .ok (.ldc i, 2)) (hw : Cond.constant M.1.cls i (Int32.ofInt n) ∈ lw_tbl) (k : sv_T X R M Z kc ks (pc + 2) ls (sv_i n :: st) S f r g) : sv_T X R M Z kc ks pc ls st S f r g := by
  intro p l e s m args below meth c H locs la hF hP hS hH
  exact lv_ldc hF.1 hF.2.1 hF.2.2.2.2.1 (hF.2.2.2.2.2.2.2.1.1.use hw rfl) hd (k p l e s m args below meth c H locs la hF hP hS hH)
theorem sv_ldc2 {n : Int64} {i : Nat} (hd : decode M.2.1 pc = .ok (.ldc2_w i, 3)) (hw : Cond.constantLong M.1.cls i n ∈ lw_tbl) (k : sv_T X R M Z kc ks (pc + 3) ls (sv_l n :: st) S f r g) : sv_T X R M Z kc ks pc ls st S f r g := by
  intro p l e s m args below meth c H locs la hF hP hS hH
  exact lv_ldc2 hF.1 hF.2.1 hF.2.2.2.2.1 (hF.2.2.2.2.2.2.2.1.1.use hw rfl) hd (k p l e s m args below meth c H locs la hF hP hS hH)
theorem sv_iload_n {n : Fin 4} {i : Nat} {x : Int} (hd : decode M.2.1 pc = .ok (.iload_n n, 1)) (hi : (n : Nat) = i) (hl : ls[i]? = some (some (sv_i x))) (k : sv_T X R M Z kc ks (pc + 1) ls (sv_i x :: st) S f r g) : sv_T X R M Z kc ks pc ls st S f r g := by
  intro p l e s m args below meth c H locs la hF hP hS hH
  exact lv_iload_n hF.1 hF.2.1 hd hi (hH.2.2 _ _ hl) (k p l e s m args below meth c H locs la hF hP hS hH)
theorem sv_iload {i : Nat} {x : Int} (hd : decode M.2.1 pc = .ok (.iload i, 2)) (hl : ls[i]? = some (some (sv_i x))) (k : sv_T X R M Z kc ks (pc + 2) ls (sv_i x :: st) S f r g) : sv_T X R M Z kc ks pc ls st S f r g := by
  intro p l e s m args below meth c H locs la hF hP hS hH
  exact lv_iload hF.1 hF.2.1 hd (hH.2.2 _ _ hl) (k p l e s m args below meth c H locs la hF hP hS hH)
theorem sv_lload_n {n : Fin 4} {i : Nat} {x : Int64} (hd : decode M.2.1 pc = .ok (.lload_n n, 1)) (hi : (n : Nat) = i) (hl : ls[i]? = some (some (sv_l x))) (k : sv_T X R M Z kc ks (pc + 1) ls (sv_l x :: st) S f r g) : sv_T X R M Z kc ks pc ls st S f r g := by
  intro p l e s m args below meth c H locs la hF hP hS hH
  exact lv_lload_n hF.1 hF.2.1 hd hi (hH.2.2 _ _ hl) (k p l e s m args below meth c H locs la hF hP hS hH)
theorem sv_lload {i : Nat} {x : Int64} (hd : decode M.2.1 pc = .ok (.lload i, 2)) (hl : ls[i]? = some (some (sv_l x))) (k : sv_T X R M Z kc ks (pc + 2) ls (sv_l x :: st) S f r g) : sv_T X R M Z kc ks pc ls st S f r g := by
  intro p l e s m args below meth c H locs la hF hP hS hH
  exact lv_lload hF.1 hF.2.1 hd (hH.2.2 _ _ hl) (k p l e s m args below meth c H locs la hF hP hS hH)
theorem sv_aload_n {n : Fin 4} {i x : Nat} (hd : decode M.2.1 pc = .ok (.aload_n n, 1)) (hi : (n : Nat) = i) (hl : ls[i]? = some (some (sv_r x))) (k : sv_T X R M Z kc ks (pc + 1) ls (sv_r x :: st) S f r g) : sv_T X R M Z kc ks pc ls st S f r g := by
  intro p l e s m args below meth c H locs la hF hP hS hH
  exact lv_aload_n hF.1 hF.2.1 hd hi (hH.2.2 _ _ hl) (k p l e s m args below meth c H locs la hF hP hS hH)
theorem sv_aload {i x : Nat} (hd : decode M.2.1 pc = .ok (.aload i, 2)) (hl : ls[i]? = some (some (sv_r x))) (k : sv_T X R M Z kc ks (pc + 2) ls (sv_r x :: st) S f r g) : sv_T X R M Z kc ks pc ls st S f r g := by
  intro p l e s m args below meth c H locs la hF hP hS hH
  exact lv_aload hF.1 hF.2.1 hd (hH.2.2 _ _ hl) (k p l e s m args below meth c H locs la hF hP hS hH)
theorem sv_wload_n {n : Fin 4} {i x : Nat} (hd : decode M.2.1 pc = .ok (.aload_n n, 1)) (hi : (n : Nat) = i) (hl : ls[i]? = some (some (sv_w x))) (k : sv_T X R M Z kc ks (pc + 1) ls (sv_w x :: st) S f r g) : sv_T X R M Z kc ks pc ls st S f r g := by
  intro p l e s m args below meth c H locs la hF hP hS hH
  exact lv_aload_n hF.1 hF.2.1 hd hi (hH.2.2 _ _ hl) (k p l e s m args below meth c H locs la hF hP hS hH)
def sv_lng (o : Option (Option sv_V)) : Bool := match o with
  | some (some (.inr (.inr (.inl _)))) => true
  | _ => false
/-- storing at i, nothing long right ahead of it -/
def sv_fre (ls : sv_L) (i : Nat) : Bool := i == 0 || !(sv_lng ls[i - 1]?)
theorem sv_cat {b : Nat} {v : sv_V} (h : sv_lng (some (some v)) = false) : (sv_cv b v).category = 1 := by
  rcases v with a | o | x | a
  · rfl
  · cases o <;> rfl
  · simp [sv_lng] at h
  · rfl
theorem sv_cat2 {b : Nat} {v : sv_V} (h : (sv_cv b v).category = 2) : sv_lng (some (some v)) = true := by
  rcases v with a | o | x | a
  · cases h
  · cases o <;> cases h
  · rfl
  · cases h
def sv_ps (b : Nat) (ls : sv_L) : List (Nat × Value) := (List.range ls.length).filterMap (fun i => match ls[i]? with
  | some (some v) => some (i, sv_cv b v)
  | _ => none)
theorem sv_ps_mem {b : Nat} {ls : sv_L} {q : Nat × Value} : q ∈ sv_ps b ls ↔ ∃ v, ls[q.1]? = some (some v) ∧ q.2 = sv_cv b v := by
  unfold sv_ps
  constructor
  · intro h
    obtain ⟨i, -, hi⟩ := List.mem_filterMap.mp h
    cases hv : ls[i]? with
    | none => rw [hv] at hi; cases hi
    | some o =>
      cases o with
      | none => rw [hv] at hi; cases hi
      | some v =>
        rw [hv] at hi
        cases hi
        exact ⟨v, hv, rfl⟩
  · rintro ⟨v, h1, h2⟩
    refine List.mem_filterMap.mpr ⟨q.1, List.mem_range.mpr (List.getElem?_eq_some_iff.mp h1).1, ?_⟩
    rw [h1]
    exact congrArg some (Prod.ext rfl h2.symm)
theorem sv_H_has {b : Nat} {la : Array Slot} {nL : Nat} {ls : sv_L} (h : sv_H b la nL ls) : lv_has la nL (sv_ps b ls) := ⟨h.1, h.2.1, fun q hq => by
  obtain ⟨v, h1, h2⟩ := sv_ps_mem.mp hq
  rw [h2]
  exact h.2.2 _ _ h1⟩
theorem sv_H_of {b : Nat} {la : Array Slot} {nL : Nat} {ls : sv_L} {l : List (Nat × Value)} (h : lv_has la nL l) (hl : ∀ q ∈ sv_ps b ls, q ∈ l) : sv_H b la nL ls := ⟨h.1, h.2.1, fun i v hv => h.2.2 (i, sv_cv b v) (hl _ (sv_ps_mem.mpr ⟨v, hv, rfl⟩))⟩
theorem sv_H_set {b : Nat} {la' : Array Slot} {nL i : Nat} {ls : sv_L} {v : sv_V} (hfr : sv_fre ls i = true) (h : lv_has la' nL ((i, sv_cv b v) :: (sv_ps b ls).filter (fun q => !(q.1 == i) && !(q.1 + 1 == i && q.2.category == 2)))) : sv_H b la' nL (ls.set i (some v)) := by
  refine sv_H_of h fun q hq => ?_
  obtain ⟨w, h1, h2⟩ := sv_ps_mem.mp hq
  by_cases hqi : q.1 = i
  · subst hqi
    by_cases hlt : q.1 < ls.length
    · rw [List.getElem?_set_self hlt] at h1
      cases h1
      exact List.mem_cons.mpr (Or.inl (Prod.ext rfl h2))
    · rw [List.getElem?_eq_none (by rw [List.length_set]; omega)] at h1
      cases h1
  · rw [List.getElem?_set_ne (Ne.symm hqi)] at h1
    refine List.mem_cons.mpr (Or.inr (List.mem_filter.mpr ⟨sv_ps_mem.mpr ⟨w, h1, h2⟩, ?_⟩))
    have n1 : (q.1 == i) = false := by simp [hqi]
    rw [n1]
    by_cases h3 : q.1 + 1 = i
    · have hc : (q.2.category == 2) = false := by
        rw [h2]
        simp only [beq_eq_false_iff_ne, ne_eq]
        intro hc
        have := sv_cat2 hc
        unfold sv_fre at hfr
        rw [show i - 1 = q.1 by omega, h1, this] at hfr
        simp at hfr
        omega
      rw [hc]
      simp
    · have : (q.1 + 1 == i) = false := by simp [h3]
      rw [this]
      rfl
theorem sv_istore_n {n : Fin 4} {i : Nat} {x : Int} (hd : decode M.2.1 pc = .ok (.istore_n n, 1)) (hi : (n : Nat) = i) (hn : i < M.2.2.1) (hfr : sv_fre ls i = true) (k : sv_T X R M Z kc ks (pc + 1) (ls.set i (some (sv_i x))) st S f r g) : sv_T X R M Z kc ks pc ls (sv_i x :: st) S f r g := by
  intro p l e s m args below meth c H locs la hF hP hS hH
  exact lv_istore_n hF.1 hF.2.1 hd hi (sv_H_has hH) hn rfl (fun la' h' => k p l e s m args below meth c H locs la' hF hP hS (sv_H_set hfr h'))
theorem sv_istore {i : Nat} {x : Int} (hd : decode M.2.1 pc = .ok (.istore i, 2)) (hn : i < M.2.2.1) (hfr : sv_fre ls i = true) (k : sv_T X R M Z kc ks (pc + 2) (ls.set i (some (sv_i x))) st S f r g) : sv_T X R M Z kc ks pc ls (sv_i x :: st) S f r g := by
  intro p l e s m args below meth c H locs la hF hP hS hH
  exact lv_istore hF.1 hF.2.1 hd (sv_H_has hH) hn rfl (fun la' h' => k p l e s m args below meth c H locs la' hF hP hS (sv_H_set hfr h'))
theorem sv_astore_n {n : Fin 4} {i x : Nat} (hd : decode M.2.1 pc = .ok (.astore_n n, 1)) (hi : (n : Nat) = i) (hn : i < M.2.2.1) (hfr : sv_fre ls i = true) (k : sv_T X R M Z kc ks (pc + 1) (ls.set i (some (sv_r x))) st S f r g) : sv_T X R M Z kc ks pc ls (sv_r x :: st) S f r g := by
  intro p l e s m args below meth c H locs la hF hP hS hH
  exact lv_astore_n hF.1 hF.2.1 hd hi (sv_H_has hH) hn rfl (fun la' h' => k p l e s m args below meth c H locs la' hF hP hS (sv_H_set (v := sv_r x) hfr h'))
theorem sv_astore {i x : Nat} (hd : decode M.2.1 pc = .ok (.astore i, 2)) (hn : i < M.2.2.1) (hfr : sv_fre ls i = true) (k : sv_T X R M Z kc ks (pc + 2) (ls.set i (some (sv_r x))) st S f r g) : sv_T X R M Z kc ks pc ls (sv_r x :: st) S f r g := by
  intro p l e s m args below meth c H locs la hF hP hS hH
  exact lv_astore hF.1 hF.2.1 hd (sv_H_has hH) hn rfl (fun la' h' => k p l e s m args below meth c H locs la' hF hP hS (sv_H_set (v := sv_r x) hfr h'))
theorem sv_H_set2 {b : Nat} {la' : Array Slot} {nL i : Nat} {ls : sv_L} {v : sv_V} (hfr : sv_fre ls i = true) (h : lv_has la' nL ((i, sv_cv b v) :: (sv_ps b ls).filter (fun q => !(q.1 == i) && (!(q.1 == i + 1) && !(q.1 + 1 == i && q.2.category == 2))))) : sv_H b la' nL ((ls.set i (some v)).set (i + 1) none) := by
  refine sv_H_of h fun q hq => ?_
  obtain ⟨w, h1, h2⟩ := sv_ps_mem.mp hq
  by_cases hq2 : q.1 = i + 1
  · rw [hq2] at h1
    by_cases hlt : i + 1 < (ls.set i (some v)).length
    · rw [List.getElem?_set_self hlt] at h1
      cases h1
    · rw [List.getElem?_eq_none (by rw [List.length_set]; omega)] at h1
      cases h1
  rw [List.getElem?_set_ne (Ne.symm hq2)] at h1
  by_cases hqi : q.1 = i
  · subst hqi
    by_cases hlt : q.1 < ls.length
    · rw [List.getElem?_set_self hlt] at h1
      cases h1
      exact List.mem_cons.mpr (Or.inl (Prod.ext rfl h2))
    · rw [List.getElem?_eq_none (by rw [List.length_set]; omega)] at h1
      cases h1
  · rw [List.getElem?_set_ne (Ne.symm hqi)] at h1
    refine List.mem_cons.mpr (Or.inr (List.mem_filter.mpr ⟨sv_ps_mem.mpr ⟨w, h1, h2⟩, ?_⟩))
    have n1 : (q.1 == i) = false := by simp [hqi]
    have n2 : (q.1 == i + 1) = false := by simp [hq2]
    rw [n1, n2]
    by_cases h3 : q.1 + 1 = i
    · have hc : (q.2.category == 2) = false := by
        rw [h2]
        simp only [beq_eq_false_iff_ne, ne_eq]
        intro hc
        have := sv_cat2 hc
        unfold sv_fre at hfr
        rw [show i - 1 = q.1 by omega, h1, this] at hfr
        simp at hfr
        omega
      rw [hc]
      simp
    · have : (q.1 + 1 == i) = false := by simp [h3]
      rw [this]
      rfl
theorem sv_lstore_n {n : Fin 4} {i : Nat} {x : Int64} (hd : decode M.2.1 pc = .ok (.lstore_n n, 1)) (hi : (n : Nat) = i) (hn : i + 1 < M.2.2.1) (hfr : sv_fre ls i = true) (k : sv_T X R M Z kc ks (pc + 1) ((ls.set i (some (sv_l x))).set (i + 1) none) st S f r g) : sv_T X R M Z kc ks pc ls (sv_l x :: st) S f r g := by
  intro p l e s m args below meth c H locs la hF hP hS hH
  exact lv_lstore_n hF.1 hF.2.1 hd hi (sv_H_has hH) hn rfl (fun la' h' => k p l e s m args below meth c H locs la' hF hP hS (sv_H_set2 hfr h'))
theorem sv_lstore {i : Nat} {x : Int64} (hd : decode M.2.1 pc = .ok (.lstore i, 2)) (hn : i + 1 < M.2.2.1) (hfr : sv_fre ls i = true) (k : sv_T X R M Z kc ks (pc + 2) ((ls.set i (some (sv_l x))).set (i + 1) none) st S f r g) : sv_T X R M Z kc ks pc ls (sv_l x :: st) S f r g := by
  intro p l e s m args below meth c H locs la hF hP hS hH
  exact lv_lstore hF.1 hF.2.1 hd (sv_H_has hH) hn rfl (fun la' h' => k p l e s m args below meth c H locs la' hF hP hS (sv_H_set2 hfr h'))
theorem sv_iinc {i : Nat} {n x : Int} (hd : decode M.2.1 pc = .ok (.iinc i n, 3)) (hl : ls[i]? = some (some (sv_i x))) (hn : i < M.2.2.1) (hfr : sv_fre ls i = true) (k : sv_T X R M Z kc ks (pc + 3) (ls.set i (some (sv_i (x + n)))) st S f r g) : sv_T X R M Z kc ks pc ls st S f r g := by
  intro p l e s m args below meth c H locs la hF hP hS hH
  obtain ⟨j, hj⟩ := List.getElem?_of_mem (sv_ps_mem.mpr ⟨_, hl, rfl⟩ : (i, sv_cv X.1 (sv_i x)) ∈ sv_ps X.1 ls)
  exact lv_iinc (v := Int32.ofInt (x + n)) hF.1 hF.2.1 hd (sv_H_has hH) hj (by rw [Int32.ofInt_add]) hn rfl (fun la' h' => k p l e s m args below meth c H locs la' hF hP hS (sv_H_set (v := sv_i (x + n)) hfr h'))
theorem sv_iadd {x y : Int} (hd : decode M.2.1 pc = .ok (.iadd, 1)) (k : sv_T X R M Z kc ks (pc + 1) ls (sv_i (x + y) :: st) S f r g) : sv_T X R M Z kc ks pc ls (sv_i y :: sv_i x :: st) S f r g := by
  intro p l e s m args below meth c H locs la hF hP hS hH
  have h := k p l e s m args below meth c H locs la hF hP hS hH
  refine lv_iadd hF.1 hF.2.1 hd ?_
  rw [← Int32.ofInt_add]
  exact h
theorem sv_isub {x y : Int} (hd : decode M.2.1 pc = .ok (.isub, 1)) (k : sv_T X R M Z kc ks (pc + 1) ls (sv_i (x - y) :: st) S f r g) : sv_T X R M Z kc ks pc ls (sv_i y :: sv_i x :: st) S f r g := by
  intro p l e s m args below meth c H locs la hF hP hS hH
  have h := k p l e s m args below meth c H locs la hF hP hS hH
  refine lv_isub hF.1 hF.2.1 hd ?_
  rw [← Int32.ofInt_sub]
  exact h
theorem sv_imul {x y : Int} (hd : decode M.2.1 pc = .ok (.imul, 1)) (k : sv_T X R M Z kc ks (pc + 1) ls (sv_i (x * y) :: st) S f r g) : sv_T X R M Z kc ks pc ls (sv_i y :: sv_i x :: st) S f r g := by
  intro p l e s m args below meth c H locs la hF hP hS hH
  have h := k p l e s m args below meth c H locs la hF hP hS hH
  refine lv_imul hF.1 hF.2.1 hd ?_
  rw [← Int32.ofInt_mul]
  exact h
theorem sv_ineg {x : Int} (hd : decode M.2.1 pc = .ok (.ineg, 1)) (k : sv_T X R M Z kc ks (pc + 1) ls (sv_i (-x) :: st) S f r g) : sv_T X R M Z kc ks pc ls (sv_i x :: st) S f r g := by
  intro p l e s m args below meth c H locs la hF hP hS hH
  have h := k p l e s m args below meth c H locs la hF hP hS hH
  refine lv_ineg hF.1 hF.2.1 hd ?_
  rw [← Int32.ofInt_neg]
  exact h
theorem sv_toInt {x : Int} (h : sv_in x) : (Int32.ofInt x).toInt = x := Int32.toInt_ofInt_of_le (by omega) (by omega)
theorem sv_ofInt_div {x y : Int} (hx : sv_in x) (hy : sv_in y) (h0 : 0 ≤ x) (h1 : 0 < y) : Int32.ofInt x / Int32.ofInt y = Int32.ofInt (x / y) := by
  apply Int32.toInt_inj.mp
  rw [Int32.toInt_div_of_ne_right _ _ (by intro h; have := congrArg Int32.toInt h; rw [sv_toInt hy] at this; simp at this; omega), sv_toInt hx, sv_toInt hy]
  have a1 : x / y ≤ x := Int.ediv_le_self _ h0
  have a2 : 0 ≤ x / y := Int.ediv_nonneg h0 (by omega)
  rw [sv_toInt (by omega), Int.tdiv_eq_ediv_of_nonneg h0]
theorem sv_ne0 {y : Int} (hy : sv_in y) (h1 : 0 < y) : ¬ Int32.ofInt y = 0 := by
  intro h
  have := congrArg Int32.toInt h
  rw [sv_toInt hy] at this
  simp at this
  omega
theorem sv_idiv {x y : Int} (hd : decode M.2.1 pc = .ok (.idiv, 1)) (hx : 0 ≤ x ∧ x ≤ 2147483647) (hy : 0 < y ∧ y ≤ 2147483647) (k : sv_T X R M Z kc ks (pc + 1) ls (sv_i (x / y) :: st) S f r g) : sv_T X R M Z kc ks pc ls (sv_i y :: sv_i x :: st) S f r g := by
  intro p l e s m args below meth c H locs la hF hP hS hH
  have h := k p l e s m args below meth c H locs la hF hP hS hH
  refine lv_idiv hF.1 hF.2.1 hd (sv_ne0 (by omega) hy.1) ?_
  rw [sv_ofInt_div (by omega) (by omega) hx.1 hy.1]
  exact h
theorem sv_irem {x y : Int} (hd : decode M.2.1 pc = .ok (.irem, 1)) (hx : 0 ≤ x ∧ x ≤ 2147483647) (hy : 0 < y ∧ y ≤ 2147483647) (k : sv_T X R M Z kc ks (pc + 1) ls (sv_i (x % y) :: st) S f r g) : sv_T X R M Z kc ks pc ls (sv_i y :: sv_i x :: st) S f r g := by
  intro p l e s m args below meth c H locs la hF hP hS hH
  have h := k p l e s m args below meth c H locs la hF hP hS hH
  refine lv_irem hF.1 hF.2.1 hd (sv_ne0 (by omega) hy.1) ?_
  rw [sv_ofInt_div (by omega) (by omega) hx.1 hy.1, ← Int32.ofInt_mul, ← Int32.ofInt_sub, show x - x / y * y = x % y by have := Int.mul_ediv_add_emod x y; rw [Int.mul_comm] at this; omega]
  exact h
theorem sv_iand {x y z : Int} (hd : decode M.2.1 pc = .ok (.iand, 1)) (hz : Int32.ofInt x &&& Int32.ofInt y = Int32.ofInt z) (k : sv_T X R M Z kc ks (pc + 1) ls (sv_i z :: st) S f r g) : sv_T X R M Z kc ks pc ls (sv_i y :: sv_i x :: st) S f r g := by
  intro p l e s m args below meth c H locs la hF hP hS hH
  have h := k p l e s m args below meth c H locs la hF hP hS hH
  refine lv_iand hF.1 hF.2.1 hd ?_
  rw [hz]
  exact h
theorem sv_ishr {x y z : Int} (hd : decode M.2.1 pc = .ok (.ishr, 1)) (hz : Int32.ofInt x >>> (Int32.ofInt y &&& 31) = Int32.ofInt z) (k : sv_T X R M Z kc ks (pc + 1) ls (sv_i z :: st) S f r g) : sv_T X R M Z kc ks pc ls (sv_i y :: sv_i x :: st) S f r g := by
  intro p l e s m args below meth c H locs la hF hP hS hH
  have h := k p l e s m args below meth c H locs la hF hP hS hH
  refine lv_ishr hF.1 hF.2.1 hd ?_
  rw [hz]
  exact h
theorem sv_ladd {x y : Int64} (hd : decode M.2.1 pc = .ok (.ladd, 1)) (k : sv_T X R M Z kc ks (pc + 1) ls (sv_l (x + y) :: st) S f r g) : sv_T X R M Z kc ks pc ls (sv_l y :: sv_l x :: st) S f r g := by
  intro p l e s m args below meth c H locs la hF hP hS hH
  exact lv_ladd hF.1 hF.2.1 hd (k p l e s m args below meth c H locs la hF hP hS hH)
theorem sv_lmul {x y : Int64} (hd : decode M.2.1 pc = .ok (.lmul, 1)) (k : sv_T X R M Z kc ks (pc + 1) ls (sv_l (x * y) :: st) S f r g) : sv_T X R M Z kc ks pc ls (sv_l y :: sv_l x :: st) S f r g := by
  intro p l e s m args below meth c H locs la hF hP hS hH
  exact lv_lmul hF.1 hF.2.1 hd (k p l e s m args below meth c H locs la hF hP hS hH)
theorem sv_i2l {x : Int} (hd : decode M.2.1 pc = .ok (.i2l, 1)) (k : sv_T X R M Z kc ks (pc + 1) ls (sv_l (Int32.ofInt x).toInt64 :: st) S f r g) : sv_T X R M Z kc ks pc ls (sv_i x :: st) S f r g := by
  intro p l e s m args below meth c H locs la hF hP hS hH
  exact lv_i2l hF.1 hF.2.1 hd rfl (k p l e s m args below meth c H locs la hF hP hS hH)
theorem sv_dup {v : sv_V} (hd : decode M.2.1 pc = .ok (.dup, 1)) (hv : sv_lng (some (some v)) = false) (k : sv_T X R M Z kc ks (pc + 1) ls (v :: v :: st) S f r g) : sv_T X R M Z kc ks pc ls (v :: st) S f r g := by
  intro p l e s m args below meth c H locs la hF hP hS hH
  exact lv_dup hF.1 hF.2.1 hd (sv_cat hv) (k p l e s m args below meth c H locs la hF hP hS hH)
theorem sv_pop {v : sv_V} (hd : decode M.2.1 pc = .ok (.pop, 1)) (hv : sv_lng (some (some v)) = false) (k : sv_T X R M Z kc ks (pc + 1) ls st S f r g) : sv_T X R M Z kc ks pc ls (v :: st) S f r g := by
  intro p l e s m args below meth c H locs la hF hP hS hH
  exact lv_pop hF.1 hF.2.1 hd (sv_cat hv) (k p l e s m args below meth c H locs la hF hP hS hH)
theorem sv_dup2 {v w : sv_V} (hd : decode M.2.1 pc = .ok (.dup2, 1)) (hv : sv_lng (some (some v)) = false) (hw : sv_lng (some (some w)) = false) (k : sv_T X R M Z kc ks (pc + 1) ls (v :: w :: v :: w :: st) S f r g) : sv_T X R M Z kc ks pc ls (v :: w :: st) S f r g := by
  intro p l e s m args below meth c H locs la hF hP hS hH
  exact lv_dup2_11 hF.1 hF.2.1 hd (sv_cat hv) (sv_cat hw) (k p l e s m args below meth c H locs la hF hP hS hH)
theorem sv_goto {off : Int} {tgt : Nat} (hd : decode M.2.1 pc = .ok (.goto off, 3)) (ht : (pc : Int) + off = (tgt : Int)) (k : sv_T X R M Z kc ks tgt ls st S f r g) : sv_T X R M Z kc ks pc ls st S f r g := by
  intro p l e s m args below meth c H locs la hF hP hS hH
  exact lv_goto hF.1 hF.2.1 hd ht (k p l e s m args below meth c H locs la hF hP hS hH)
theorem sv_eqI {x y : Int} (hx : sv_in x) (hy : sv_in y) : Int32.ofInt x = Int32.ofInt y ↔ x = y := by
  constructor
  · intro h
    have := congrArg Int32.toInt h
    rw [sv_toInt hx, sv_toInt hy] at this
    exact this
  · intro h
    rw [h]
theorem sv_ltI {x y : Int} (hx : sv_in x) (hy : sv_in y) : Int32.ofInt x < Int32.ofInt y ↔ x < y := by rw [Int32.lt_iff_toInt_lt, sv_toInt hx, sv_toInt hy]
theorem sv_leI {x y : Int} (hx : sv_in x) (hy : sv_in y) : Int32.ofInt x ≤ Int32.ofInt y ↔ x ≤ y := by rw [Int32.le_iff_toInt_le, sv_toInt hx, sv_toInt hy]
theorem sv_icmp_eq {x y off : Int} {tgt : Nat} (hd : decode M.2.1 pc = .ok (.if_icmp .eq off, 3)) (ht : (pc : Int) + off = (tgt : Int)) (hx : sv_in x) (hy : sv_in y) (kt : x = y → sv_T X R M Z kc ks tgt ls st S f r g) (kf : ¬ x = y → sv_T X R M Z kc ks (pc + 3) ls st S f r g) : sv_T X R M Z kc ks pc ls (sv_i y :: sv_i x :: st) S f r g := by
  intro p l e s m args below meth c H locs la hF hP hS hH
  exact lv_icmp_eq hF.1 hF.2.1 hd ht (fun q => kt ((sv_eqI hx hy).mp q) p l e s m args below meth c H locs la hF hP hS hH) (fun q => kf (fun z => q ((sv_eqI hx hy).mpr z)) p l e s m args below meth c H locs la hF hP hS hH)
theorem sv_icmp_ne {x y off : Int} {tgt : Nat} (hd : decode M.2.1 pc = .ok (.if_icmp .ne off, 3)) (ht : (pc : Int) + off = (tgt : Int)) (hx : sv_in x) (hy : sv_in y) (kt : ¬ x = y → sv_T X R M Z kc ks tgt ls st S f r g) (kf : x = y → sv_T X R M Z kc ks (pc + 3) ls st S f r g) : sv_T X R M Z kc ks pc ls (sv_i y :: sv_i x :: st) S f r g := by
  intro p l e s m args below meth c H locs la hF hP hS hH
  exact lv_icmp_ne hF.1 hF.2.1 hd ht (fun q => kt (fun z => q ((sv_eqI hx hy).mpr z)) p l e s m args below meth c H locs la hF hP hS hH) (fun q => kf ((sv_eqI hx hy).mp q) p l e s m args below meth c H locs la hF hP hS hH)
theorem sv_icmp_lt {x y off : Int} {tgt : Nat} (hd : decode M.2.1 pc = .ok (.if_icmp .lt off, 3)) (ht : (pc : Int) + off = (tgt : Int)) (hx : sv_in x) (hy : sv_in y) (kt : x < y → sv_T X R M Z kc ks tgt ls st S f r g) (kf : y ≤ x → sv_T X R M Z kc ks (pc + 3) ls st S f r g) : sv_T X R M Z kc ks pc ls (sv_i y :: sv_i x :: st) S f r g := by
  intro p l e s m args below meth c H locs la hF hP hS hH
  exact lv_icmp_lt hF.1 hF.2.1 hd ht (fun q => kt ((sv_ltI hx hy).mp q) p l e s m args below meth c H locs la hF hP hS hH) (fun q => kf (by have q2 : ¬ (x < y) := fun z => q ((sv_ltI hx hy).mpr z); omega) p l e s m args below meth c H locs la hF hP hS hH)
theorem sv_icmp_ge {x y off : Int} {tgt : Nat} (hd : decode M.2.1 pc = .ok (.if_icmp .ge off, 3)) (ht : (pc : Int) + off = (tgt : Int)) (hx : sv_in x) (hy : sv_in y) (kt : y ≤ x → sv_T X R M Z kc ks tgt ls st S f r g) (kf : x < y → sv_T X R M Z kc ks (pc + 3) ls st S f r g) : sv_T X R M Z kc ks pc ls (sv_i y :: sv_i x :: st) S f r g := by
  intro p l e s m args below meth c H locs la hF hP hS hH
  exact lv_icmp_ge hF.1 hF.2.1 hd ht (fun q => kt ((sv_leI hy hx).mp q) p l e s m args below meth c H locs la hF hP hS hH) (fun q => kf (by have q2 : ¬ (y ≤ x) := fun z => q ((sv_leI hy hx).mpr z); omega) p l e s m args below meth c H locs la hF hP hS hH)
theorem sv_icmp_gt {x y off : Int} {tgt : Nat} (hd : decode M.2.1 pc = .ok (.if_icmp .gt off, 3)) (ht : (pc : Int) + off = (tgt : Int)) (hx : sv_in x) (hy : sv_in y) (kt : y < x → sv_T X R M Z kc ks tgt ls st S f r g) (kf : x ≤ y → sv_T X R M Z kc ks (pc + 3) ls st S f r g) : sv_T X R M Z kc ks pc ls (sv_i y :: sv_i x :: st) S f r g := by
  intro p l e s m args below meth c H locs la hF hP hS hH
  exact lv_icmp_gt hF.1 hF.2.1 hd ht (fun q => kt ((sv_ltI hy hx).mp q) p l e s m args below meth c H locs la hF hP hS hH) (fun q => kf (by have q2 : ¬ (y < x) := fun z => q ((sv_ltI hy hx).mpr z); omega) p l e s m args below meth c H locs la hF hP hS hH)
theorem sv_icmp_le {x y off : Int} {tgt : Nat} (hd : decode M.2.1 pc = .ok (.if_icmp .le off, 3)) (ht : (pc : Int) + off = (tgt : Int)) (hx : sv_in x) (hy : sv_in y) (kt : x ≤ y → sv_T X R M Z kc ks tgt ls st S f r g) (kf : y < x → sv_T X R M Z kc ks (pc + 3) ls st S f r g) : sv_T X R M Z kc ks pc ls (sv_i y :: sv_i x :: st) S f r g := by
  intro p l e s m args below meth c H locs la hF hP hS hH
  exact lv_icmp_le hF.1 hF.2.1 hd ht (fun q => kt ((sv_leI hx hy).mp q) p l e s m args below meth c H locs la hF hP hS hH) (fun q => kf (by have q2 : ¬ (x ≤ y) := fun z => q ((sv_leI hx hy).mpr z); omega) p l e s m args below meth c H locs la hF hP hS hH)
theorem sv_if_eq {x off : Int} {tgt : Nat} (hd : decode M.2.1 pc = .ok (.ifCond .eq off, 3)) (ht : (pc : Int) + off = (tgt : Int)) (hx : sv_in x) (kt : x = 0 → sv_T X R M Z kc ks tgt ls st S f r g) (kf : ¬ x = 0 → sv_T X R M Z kc ks (pc + 3) ls st S f r g) : sv_T X R M Z kc ks pc ls (sv_i x :: st) S f r g := by
  intro p l e s m args below meth c H locs la hF hP hS hH
  have h0 : sv_in 0 := by omega
  exact lv_if_eq hF.1 hF.2.1 hd ht (fun q => kt ((sv_eqI hx h0).mp q) p l e s m args below meth c H locs la hF hP hS hH) (fun q => kf (fun z => q ((sv_eqI hx h0).mpr z)) p l e s m args below meth c H locs la hF hP hS hH)
theorem sv_if_ne {x off : Int} {tgt : Nat} (hd : decode M.2.1 pc = .ok (.ifCond .ne off, 3)) (ht : (pc : Int) + off = (tgt : Int)) (hx : sv_in x) (kt : ¬ x = 0 → sv_T X R M Z kc ks tgt ls st S f r g) (kf : x = 0 → sv_T X R M Z kc ks (pc + 3) ls st S f r g) : sv_T X R M Z kc ks pc ls (sv_i x :: st) S f r g := by
  intro p l e s m args below meth c H locs la hF hP hS hH
  have h0 : sv_in 0 := by omega
  exact lv_if_ne hF.1 hF.2.1 hd ht (fun q => kt (fun z => q ((sv_eqI hx h0).mpr z)) p l e s m args below meth c H locs la hF hP hS hH) (fun q => kf ((sv_eqI hx h0).mp q) p l e s m args below meth c H locs la hF hP hS hH)
theorem sv_if_lt {x off : Int} {tgt : Nat} (hd : decode M.2.1 pc = .ok (.ifCond .lt off, 3)) (ht : (pc : Int) + off = (tgt : Int)) (hx : sv_in x) (kt : x < 0 → sv_T X R M Z kc ks tgt ls st S f r g) (kf : 0 ≤ x → sv_T X R M Z kc ks (pc + 3) ls st S f r g) : sv_T X R M Z kc ks pc ls (sv_i x :: st) S f r g := by
  intro p l e s m args below meth c H locs la hF hP hS hH
  have h0 : sv_in 0 := by omega
  exact lv_if_lt hF.1 hF.2.1 hd ht (fun q => kt ((sv_ltI hx h0).mp q) p l e s m args below meth c H locs la hF hP hS hH) (fun q => kf (by have q2 : ¬ (x < 0) := fun z => q ((sv_ltI hx h0).mpr z); omega) p l e s m args below meth c H locs la hF hP hS hH)
theorem sv_if_ge {x off : Int} {tgt : Nat} (hd : decode M.2.1 pc = .ok (.ifCond .ge off, 3)) (ht : (pc : Int) + off = (tgt : Int)) (hx : sv_in x) (kt : 0 ≤ x → sv_T X R M Z kc ks tgt ls st S f r g) (kf : x < 0 → sv_T X R M Z kc ks (pc + 3) ls st S f r g) : sv_T X R M Z kc ks pc ls (sv_i x :: st) S f r g := by
  intro p l e s m args below meth c H locs la hF hP hS hH
  have h0 : sv_in 0 := by omega
  exact lv_if_ge hF.1 hF.2.1 hd ht (fun q => kt ((sv_leI h0 hx).mp q) p l e s m args below meth c H locs la hF hP hS hH) (fun q => kf (by have q2 : ¬ (0 ≤ x) := fun z => q ((sv_leI h0 hx).mpr z); omega) p l e s m args below meth c H locs la hF hP hS hH)
theorem sv_if_gt {x off : Int} {tgt : Nat} (hd : decode M.2.1 pc = .ok (.ifCond .gt off, 3)) (ht : (pc : Int) + off = (tgt : Int)) (hx : sv_in x) (kt : 0 < x → sv_T X R M Z kc ks tgt ls st S f r g) (kf : x ≤ 0 → sv_T X R M Z kc ks (pc + 3) ls st S f r g) : sv_T X R M Z kc ks pc ls (sv_i x :: st) S f r g := by
  intro p l e s m args below meth c H locs la hF hP hS hH
  have h0 : sv_in 0 := by omega
  exact lv_if_gt hF.1 hF.2.1 hd ht (fun q => kt ((sv_ltI h0 hx).mp q) p l e s m args below meth c H locs la hF hP hS hH) (fun q => kf (by have q2 : ¬ (0 < x) := fun z => q ((sv_ltI h0 hx).mpr z); omega) p l e s m args below meth c H locs la hF hP hS hH)
theorem sv_if_le {x off : Int} {tgt : Nat} (hd : decode M.2.1 pc = .ok (.ifCond .le off, 3)) (ht : (pc : Int) + off = (tgt : Int)) (hx : sv_in x) (kt : x ≤ 0 → sv_T X R M Z kc ks tgt ls st S f r g) (kf : 0 < x → sv_T X R M Z kc ks (pc + 3) ls st S f r g) : sv_T X R M Z kc ks pc ls (sv_i x :: st) S f r g := by
  intro p l e s m args below meth c H locs la hF hP hS hH
  have h0 : sv_in 0 := by omega
  exact lv_if_le hF.1 hF.2.1 hd ht (fun q => kt ((sv_leI hx h0).mp q) p l e s m args below meth c H locs la hF hP hS hH) (fun q => kf (by have q2 : ¬ (x ≤ 0) := fun z => q ((sv_leI hx h0).mpr z); omega) p l e s m args below meth c H locs la hF hP hS hH)
theorem sv_tsw {lo hi : Int} {dflt : Int} {offs : Array Int} {len : Nat} {x off : Int} {tgt : Nat} (hd : decode M.2.1 pc = .ok (.tableswitch dflt lo hi offs, len)) (hx : sv_in x) (h1 : lo ≤ x) (h2 : x ≤ hi) (ho : offs[(x - lo).toNat]? = some off) (ht : (pc : Int) + off = (tgt : Int)) (k : sv_T X R M Z kc ks tgt ls st S f r g) : sv_T X R M Z kc ks pc ls (sv_i x :: st) S f r g := by
  intro p l e s m args below meth c H locs la hF hP hS hH
  exact lv_tableIn hF.1 hF.2.1 hd (by rw [sv_toInt hx]; omega) (by rw [sv_toInt hx]; omega) (by rw [sv_toInt hx]; exact ho) ht (k p l e s m args below meth c H locs la hF hP hS hH)
theorem sv_tswd {lo hi : Int} {dflt : Int} {offs : Array Int} {len : Nat} {x : Int} {tgt : Nat} (hd : decode M.2.1 pc = .ok (.tableswitch dflt lo hi offs, len)) (hx : sv_in x) (h1 : x < lo ∨ hi < x) (ht : (pc : Int) + dflt = (tgt : Int)) (k : sv_T X R M Z kc ks tgt ls st S f r g) : sv_T X R M Z kc ks pc ls (sv_i x :: st) S f r g := by
  intro p l e s m args below meth c H locs la hF hP hS hH
  exact lv_tableOut hF.1 hF.2.1 hd (by rw [sv_toInt hx]; exact h1) ht (k p l e s m args below meth c H locs la hF hP hS hH)
theorem sv_lcmp {x y : Int64} (hd : decode M.2.1 pc = .ok (.lcmp, 1)) (hxy : x = y) (k : sv_T X R M Z kc ks (pc + 1) ls (sv_i 0 :: st) S f r g) : sv_T X R M Z kc ks pc ls (sv_l y :: sv_l x :: st) S f r g := by
  intro p l e s m args below meth c H locs la hF hP hS hH
  have h := k p l e s m args below meth c H locs la hF hP hS hH
  refine W.lcmp hF.1 hF.2.1 hd ?_
  subst hxy
  have e : lg_cmp x x = 0 := by simp [lg_cmp]
  rw [e]
  exact h
/-- the facts that the heap's own picture gives -/
theorem sv_fr (k : (∀ i j, sv_in (f i j)) → sv_T X R M Z kc ks pc ls st S f r g) : sv_T X R M Z kc ks pc ls st S f r g := by
  intro p l e s m args below meth c H locs la hF hP hS hH
  exact k hP.2.2.1 p l e s m args below meth c H locs la hF hP hS hH
end SVROWS
end
section
def sv_u (f : sv_F) (i : Nat) (j : Int) (a : Int) : sv_F := fun x y => if x = i ∧ y = j then a else f x y
def sv_ur (f : sv_R) (i : Nat) (j : Int) (a : Option Nat) : sv_R := fun x y => if x = i ∧ y = j then a else f x y
def sv_ug (f : sv_G) (i : Nat) (j : Int) (a : Int64) : sv_G := fun x y => if x = i ∧ y = j then a else f x y
theorem sv_u_ne {f : sv_F} {i : Nat} {j a : Int} {x : Nat} (h : x ≠ i) : sv_u f i j a x = f x := by
  funext y
  simp [sv_u, h]
theorem sv_ur_ne {f : sv_R} {i : Nat} {j : Int} {a : Option Nat} {x : Nat} (h : x ≠ i) : sv_ur f i j a x = f x := by
  funext y
  simp [sv_ur, h]
theorem sv_ug_ne {f : sv_G} {i : Nat} {j : Int} {a : Int64} {x : Nat} (h : x ≠ i) : sv_ug f i j a x = f x := by
  funext y
  simp [sv_ug, h]
/-- a class of ours, by its place among the classes -/
def sv_cb (ci : Nat) (q : vw_C) : Prop := vwCl[ci]? = some q ∧ q.2.2 = sv_cn ci ∧ ci < 6 ∧ (∀ w ∈ u_ws q.1 q.2.1 q.2.2, w ∈ lw_tbl) ∧ (∀ k, k < q.2.2 → parseFieldDescriptor (q.2.1 k).2.2.1 = some (sv_ty ci k)) ∧ ∀ a, a < q.2.2 → ∀ b, b < q.2.2 → a ≠ b → (q.2.1 a).2.1 ≠ (q.2.1 b).2.1
theorem sv_cb0 : sv_cb 0 (RX0, TX0, 7) := ⟨rfl, rfl, by decide, inX0, tyX0_ok, nmX0⟩
theorem sv_cb1 : sv_cb 1 (RX1, TX1, 7) := ⟨rfl, rfl, by decide, inX1, tyX1_ok, nmX1⟩
theorem sv_cb2 : sv_cb 2 (RX2, TX2, 2) := ⟨rfl, rfl, by decide, inX2, tyX2_ok, nmX2⟩
theorem sv_cb3 : sv_cb 3 (RX3, TX3, 6) := ⟨rfl, rfl, by decide, inX3, tyX3_ok, nmX3⟩
theorem sv_cb4 : sv_cb 4 (RX4, TX4, 7) := ⟨rfl, rfl, by decide, inX4, tyX4_ok, nmX4⟩
theorem sv_cb5 : sv_cb 5 (RX5, TX5, 17) := ⟨rfl, rfl, by decide, inX5, tyX5_ok, nmX5⟩
/-- a field, as an entry of a class's file names it -/
def sv_fl (own : String) (idx ci k : Nat) (fin : Bool) : Prop := ∃ q : vw_C, sv_cb ci q ∧ k < q.2.2 ∧ (q.2.1 k).2.2.2 = fin ∧ (q.2.1 k).1 = q.1 ∧ (Cond.fieldLink own idx (q.2.1 k).1 (q.2.1 k).2.1 (q.2.1 k).2.2.1 ∈ lw_tbl ∨ ∃ host, Cond.fieldLinkNest own idx (q.2.1 k).1 (q.2.1 k).2.1 (q.2.1 k).2.2.1 host ∈ lw_tbl)
theorem sv_lay_ok {C : String} {T : u_T} {N : Nat} : ∀ w ∈ u_ws C T N, sv_ok w = true := by
  intro w hw
  obtain ⟨k, -, rfl⟩ := List.mem_map.mp hw
  unfold u_lay
  split <;> rfl
def sv_isr (t : FieldType) : Bool := match t with
  | .object _ => true
  | .array _ => true
  | _ => false
theorem sv_fs_len {b ci : Nat} {fi : Int → Int} {ri : Int → Option Nat} {gi : Int → Int64} : (sv_fs b ci fi ri gi).length = sv_cn ci := by simp [sv_fs]
theorem sv_fs_get {b ci k : Nat} {fi : Int → Int} {ri : Int → Option Nat} {gi : Int → Int64} (h : k < sv_cn ci) : (sv_fs b ci fi ri gi)[k]? = some (sv_fv b (sv_ty ci k) (fi k) (ri k) (gi k)) := by
  simp [sv_fs, List.getElem?_map, List.getElem?_range h]
theorem sv_fs_set {b ci k : Nat} {fi fi' : Int → Int} {ri ri' : Int → Option Nat} {gi gi' : Int → Int64} {v : Value} (hv : v = sv_fv b (sv_ty ci k) (fi' k) (ri' k) (gi' k)) (hf : ∀ j : Nat, j ≠ k → fi' j = fi j) (hr : ∀ j : Nat, j ≠ k → ri' j = ri j) (hg : ∀ j : Nat, j ≠ k → gi' j = gi j) : (sv_fs b ci fi ri gi).set k v = sv_fs b ci fi' ri' gi' := by
  apply List.ext_getElem?
  intro j
  by_cases hj : j < sv_cn ci
  · by_cases hjk : j = k
    · subst hjk
      rw [List.getElem?_set_self (by rw [sv_fs_len]; exact hj), sv_fs_get hj, hv]
    · rw [List.getElem?_set_ne (Ne.symm hjk), sv_fs_get hj, sv_fs_get hj, hf j hjk, hr j hjk, hg j hjk]
  · rw [List.getElem?_eq_none (by rw [List.length_set, sv_fs_len]; omega), List.getElem?_eq_none (by rw [sv_fs_len]; omega)]
theorem sv_e_obj {X : sv_X} {kn : Nat × Nat} {ci : Nat} {fi : Int → Int} {ri : Int → Option Nat} {gi : Int → Int64} (h : kn.1 = ci) (hc : ci < 6) : sv_e X kn fi ri gi = .inr (ci, sv_fs X.1 ci fi ri gi) := by
  unfold sv_e
  rw [if_pos (by omega), h]
theorem sv_e_int {X : sv_X} {n : Nat} {fi : Int → Int} {ri : Int → Option Nat} {gi : Int → Int64} : sv_e X (6, n) fi ri gi = .inl (X.2.2.1 0, n, .inl (fun j => Int32.ofInt (fi (j : Int)))) := rfl
theorem sv_e_bool {X : sv_X} {n : Nat} {fi : Int → Int} {ri : Int → Option Nat} {gi : Int → Int64} : sv_e X (7, n) fi ri gi = .inl (X.2.2.1 1, n, .inl (fun j => Int32.ofInt (fi (j : Int)))) := rfl
theorem sv_e_ref {X : sv_X} {t n : Nat} {fi : Int → Int} {ri : Int → Option Nat} {gi : Int → Int64} : sv_e X (8 + t, n) fi ri gi = .inl (X.2.2.1 (2 + t), n, .inr (.inr (.inr (.inr (fun j => (ri (j : Int)).map (X.1 + ·)))))) := by
  unfold sv_e
  rw [if_neg (by show ¬ 8 + t < 6; omega), if_neg (by show ¬ 8 + t < 8; omega)]
  show Sum.inl (X.2.2.1 (8 + t - 6), _) = _
  rw [show 8 + t - 6 = 2 + t by omega]
theorem sv_vp {j : Int} {n : Nat} (h : 0 ≤ j ∧ j < (n : Int)) (hn : n ≤ 100000) : vp_in (Int32.ofInt j) n ∧ (((Int32.ofInt j).toNatClampNeg : Nat) : Int) = j := by
  have e : (Int32.ofInt j).toInt = j := sv_toInt (by omega)
  have e2 : (Int32.ofInt j).toNatClampNeg = j.toNat := by rw [← Int32.toNat_toInt, e]
  refine ⟨vp_in_iff.mpr (by rw [e]; exact h), by rw [e2]; omega⟩
section SVHEAP
variable {X : sv_X} {R : Room} {M : sv_M} {Z : sv_Z} {kc ks : Nat} {pc : Nat} {ls : sv_L} {st : List sv_V} {S : sv_S} {f : sv_F} {r : sv_R} {g : sv_G}
theorem sv_get0 {idx ci k i : Nat} {fin : Bool} (hw : sv_fl M.1.cls idx ci k fin) (hd : decode M.2.1 pc = .ok (.getfield idx, 3)) (hi : i < S.1) (hk : (S.2 i).1 = ci) {v : sv_V} (hv : sv_cv X.1 v = sv_fv X.1 (sv_ty ci k) (f i k) (r i k) (g i k)) (kk : sv_T X R M Z kc ks (pc + 3) ls (v :: st) S f r g) : sv_T X R M Z kc ks pc ls (sv_r i :: st) S f r g := by
  intro p l e s m args below meth c H locs la hF hP hS hH
  obtain ⟨⟨C, T, N⟩, ⟨c1, c2, c3, c4, c5, c6⟩, hkN, -, hsm, hl⟩ := hw
  have hkk := kk p l e s m args below meth c H locs la hF hP hS hH
  have hKw := hF.2.2.2.2.2.2.2.1.1
  have hK := hF.2.2.2.2.2.2.2.1.2.1
  have he : (sv_ws X S f r g)[i]? = some (X.1 + i, .inr (ci, sv_fs X.1 ci (f i) (r i) (g i))) := by rw [sv_ws_get hi, sv_e_obj hk c3]
  have hvv : (sv_fs X.1 ci (f i) (r i) (g i))[k]? = some (sv_cv X.1 v) := by rw [sv_fs_get (by rw [← c2]; exact hkN), hv]
  have hts : ∀ w ∈ u_ws C T N, w.before args s = true := fun w h => hKw.use (c4 w h) (sv_lay_ok w h)
  rcases hl with hl | ⟨host, hl⟩
  · exact va_get (C := C) (T := T) (N := N) hF.1 hF.2.1 hts (fun _ h => h) hF.2.2.2.2.1 hK hP.1 i he c1 k hkN (hKw.use hl rfl) (fun _ h => h) hvv hd hkk
  · exact va_getN (C := C) (T := T) (N := N) hF.1 hF.2.1 hts (fun _ h => h) hF.2.2.2.2.1 hK hP.1 i he c1 k hkN (hKw.use hl (by unfold sv_ok; exact Bool.or_true _)) (fun _ h => h) hvv hd hkk
theorem sv_getI {idx ci k i : Nat} {kz : Int} {fin : Bool} (hw : sv_fl M.1.cls idx ci k fin) (hd : decode M.2.1 pc = .ok (.getfield idx, 3)) (hz : (k : Int) = kz) (ht : sv_ty ci k = .int) (hi : i < S.1) (hk : (S.2 i).1 = ci) (kk : sv_T X R M Z kc ks (pc + 3) ls (sv_i (f i kz) :: st) S f r g) : sv_T X R M Z kc ks pc ls (sv_r i :: st) S f r g := by
  subst hz
  exact sv_get0 hw hd hi hk (v := sv_i (f i k)) (by rw [ht]; rfl) kk
theorem sv_getL {idx ci k i : Nat} {kz : Int} {fin : Bool} (hw : sv_fl M.1.cls idx ci k fin) (hd : decode M.2.1 pc = .ok (.getfield idx, 3)) (hz : (k : Int) = kz) (ht : sv_ty ci k = .long) (hi : i < S.1) (hk : (S.2 i).1 = ci) (kk : sv_T X R M Z kc ks (pc + 3) ls (sv_l (g i kz) :: st) S f r g) : sv_T X R M Z kc ks pc ls (sv_r i :: st) S f r g := by
  subst hz
  exact sv_get0 hw hd hi hk (v := sv_l (g i k)) (by rw [ht]; rfl) kk
theorem sv_fv_r {b : Nat} {t : FieldType} {a : Int} {o : Option Nat} {x : Int64} (h : sv_isr t = true) : sv_fv b t a o x = va_rf (o.map (b + ·)) := by
  cases t <;> first | rfl | (simp [sv_isr] at h)
theorem sv_getR {idx ci k i j : Nat} {kz : Int} {fin : Bool} (hw : sv_fl M.1.cls idx ci k fin) (hd : decode M.2.1 pc = .ok (.getfield idx, 3)) (hz : (k : Int) = kz) (ht : sv_isr (sv_ty ci k) = true) (hi : i < S.1) (hk : (S.2 i).1 = ci) (hj : r i kz = some j) (kk : sv_T X R M Z kc ks (pc + 3) ls (sv_r j :: st) S f r g) : sv_T X R M Z kc ks pc ls (sv_r i :: st) S f r g := by
  subst hz
  exact sv_get0 hw hd hi hk (v := sv_r j) (by rw [sv_fv_r ht, hj]; rfl) kk
theorem sv_put0 {idx ci k i : Nat} {fin : Bool} {f' : sv_F} {r' : sv_R} {g' : sv_G} (hw : sv_fl M.1.cls idx ci k fin) (hd : decode M.2.1 pc = .ok (.putfield idx, 3)) (hfin : fin = false ∨ (M.1.name = "<init>" ∧ ∃ q, vwCl[ci]? = some q ∧ q.1 = M.1.cls)) (hi : i < S.1) (hk : (S.2 i).1 = ci) {v : sv_V} (hv : sv_cv X.1 v = sv_fv X.1 (sv_ty ci k) (f' i k) (r' i k) (g' i k))
    (hn : narrow (sv_ty ci k) (sv_cv X.1 v) = sv_cv X.1 v) (hfit : fits (sv_ty ci k) (sv_cv X.1 v) = true) (hf0 : ∀ j, j ≠ i → f' j = f j) (hr0 : ∀ j, j ≠ i → r' j = r j) (hg0 : ∀ j, j ≠ i → g' j = g j) (hf : ∀ j : Nat, j ≠ k → f' i j = f i j) (hr : ∀ j : Nat, j ≠ k → r' i j = r i j) (hg : ∀ j : Nat, j ≠ k → g' i j = g i j) (hin : ∀ i j, sv_in (f' i j))
    (kk : sv_T X R M Z kc ks (pc + 3) ls st S f' r' g') : sv_T X R M Z kc ks pc ls (v :: sv_r i :: st) S f r g := by
  intro p l e s m args below meth c H locs la hF hP hS hH
  obtain ⟨⟨C, T, N⟩, ⟨c1, c2, c3, c4, c5, c6⟩, hkN, hff, hsm, hl⟩ := hw
  have hKw := hF.2.2.2.2.2.2.2.1.1
  have hK := hF.2.2.2.2.2.2.2.1.2.1
  have he : (sv_ws X S f r g)[i]? = some (X.1 + i, .inr (ci, sv_fs X.1 ci (f i) (r i) (g i))) := by rw [sv_ws_get hi, sv_e_obj hk c3]
  have hts : ∀ w ∈ u_ws C T N, w.before args s = true := fun w h => hKw.use (c4 w h) (sv_lay_ok w h)
  have hlen : k < (sv_fs X.1 ci (f i) (r i) (g i)).length := by rw [sv_fs_len, ← c2]; exact hkN
  have hset : (sv_ws X S f r g).set i (X.1 + i, .inr (ci, (sv_fs X.1 ci (f i) (r i) (g i)).set k (sv_cv X.1 v))) = sv_ws X S f' r' g' := by
    refine sv_ws_set (fun _ => ?_) hf0 hr0 hg0
    rw [sv_e_obj hk c3, sv_fs_set hv hf hr hg]
  have go : ∀ (H1 : Heap) (locs1 : List Loc), va_P X.2.1 vwCl ((sv_ws X S f r g).set i (X.1 + i, .inr (ci, (sv_fs X.1 ci (f i) (r i) (g i)).set k (sv_cv X.1 v)))) H1 → va_S (fun q => X.1 ≤ q) s.heap H1 locs1 → H1.size = H.size → W p l e R s m args below meth c H1 locs1 kc ks (Z below args s) (F0 m (pc + 3) la (st.map (sv_cv X.1))) := by
    intro H1 locs1 hP1 hS1 hz
    rw [hset] at hP1
    exact kk p l e s m args below meth c H1 locs1 la hF ⟨hP1, by rw [hz]; exact hP.2.1, hin, hP.2.2.2⟩ hS1 hH
  have hap := va_apart (own := M.1.cls) hts (fun _ h => h) (sv_ty ci) c5 c6 hK c1
  obtain ⟨r0, h1, cell, q1, q2, q3, q4⟩ := hP.1 i _ he
  have hr1 : r0 = (C, T, N) := Option.some.inj (h1.symm.trans c1)
  subst hr1
  obtain ⟨hSl, hfc, kC, hkC, hkind⟩ := hK.1 ci _ c1
  obtain ⟨cf, kf, fi, fd, hi2, hsl⟩ := hSl k hkN
  have hst := (u_facts hfc hkC (u_lays hts (fun _ h => h) hkN) hi2).1
  have hlay := hts _ (u_in_lay hkN)
  have e3 : (hasFlag fd.accessFlags Acc.final = false ∨ (m.cls = cf ∧ meth.name = "<init>")) ∧ narrow fd.type (sv_cv X.1 v) = sv_cv X.1 v ∧ s.fitsSlot (X.2.1.1 ci) .none fd.slot (sv_cv X.1 v) = true := by
    cases fin with
    | false =>
      unfold u_lay at hlay
      rw [if_neg (by rw [hff]; decide)] at hlay
      have h6 := u_store hfc hkC hkind hlay hi2 (c5 k hkN) hn hfit
      exact ⟨Or.inl h6.1, h6.2.1, h6.2.2⟩
    | true =>
      rcases hfin with h | ⟨h7, q7, h8, h9⟩
      · cases h
      · unfold u_lay at hlay
        rw [if_pos hff] at hlay
        have hcf : m.cls = cf := by
          obtain ⟨_, _, c', _, _, _, -, -, hf', -, -, -, hown2, -⟩ := Cond.laysFinal_spec hlay
          have e1 : c' = cf := by have := hi2.symm.trans hf'; simp at this; exact this.1.symm
          have e2 : q7 = (C, T, N) := Option.some.inj (h8.symm.trans c1)
          rw [e2] at h9
          have hsm' : (T k).1 = C := hsm
          have h9' : C = M.1.cls := h9
          rw [hsm', h9'] at hown2
          rw [← e1]; exact Option.some.inj (hF.2.2.2.2.1.symm.trans hown2)
        have h6 := u_fits hfc hkC hkind (Or.inr hlay) hi2 (c5 k hkN) hn hfit
        exact ⟨Or.inr ⟨hcf, by rw [hF.2.2.2.2.2.2.1]; exact h7⟩, h6⟩
  have ha : X.1 + i < H.size := (Array.getElem?_eq_some_iff.mp q1).1
  have hslot : fd.slot < cell.slots.size := by rw [hsl]; exact k2_hasslot (q4 k hkN)
  have fin1 : W p l e R s m args below meth c (H.setIfInBounds (X.1 + i) (cell.setSlot fd.slot (sv_cv X.1 v))) (locs ++ [⟨X.1 + i, fd.slot⟩]) kc ks (Z below args s) (F0 m (pc + 3) la (st.map (sv_cv X.1))) := by
    have e4 : (H.setIfInBounds (X.1 + i) (cell.setSlot fd.slot (sv_cv X.1 v)))[X.1 + i]? = some (cell.setSlot fd.slot (sv_cv X.1 v)) := by simp [Array.getElem?_setIfInBounds, ha]
    have e5 : ∀ q : Nat, q ≠ X.1 + i → (H.setIfInBounds (X.1 + i) (cell.setSlot fd.slot (sv_cv X.1 v)))[q]? = H[q]? := fun q hq => by simp [Array.getElem?_setIfInBounds, Ne.symm hq]
    refine go _ _ (hP.1.set sv_ws_D he ⟨_, c1, t_OB.to (V := updV (vp_V (sv_fs X.1 ci (f i) (r i) (g i))) k (sv_cv X.1 v)) ⟨_, e4, q2, q3, ?_⟩ (fun j _ => vp_updV_set hlen (sv_cv X.1 v) j)⟩ e5) (hS.put (by simp) e5 (by show X.1 ≤ X.1 + i; omega)) (by simp)
    have := t_set q4 hap hkN (sv_cv X.1 v)
    rw [hsl]
    exact this
  rcases hl with hl | ⟨host, hl⟩
  · exact W.putf hF.1 hF.2.1 hF.2.2.2.2.1 (hKw.use hl rfl) (f := fd) hi2 hst e3.1 q1 (by rw [q3]; exact fun h => by cases h) hslot e3.2.1 (by rw [q2, q3]; exact e3.2.2) rfl rfl hd fin1
  · exact va_Wputf hF.1 hF.2.1 hF.2.2.2.2.1 (hKw.use hl (by unfold sv_ok; exact Bool.or_true _)) (f := fd) hi2 hst e3.1 q1 (by rw [q3]; exact fun h => by cases h) hslot e3.2.1 (by rw [q2, q3]; exact e3.2.2) rfl rfl hd fin1
theorem sv_u_in {i : Nat} {j a : Int} (h : ∀ i j, sv_in (f i j)) (ha : sv_in a) : ∀ x y, sv_in (sv_u f i j a x y) := by
  intro x y
  unfold sv_u
  split
  · exact ha
  · exact h x y
theorem sv_putI {idx ci k i : Nat} {kz a : Int} {fin : Bool} (hw : sv_fl M.1.cls idx ci k fin) (hd : decode M.2.1 pc = .ok (.putfield idx, 3)) (hfin : fin = false ∨ (M.1.name = "<init>" ∧ ∃ q, vwCl[ci]? = some q ∧ q.1 = M.1.cls)) (hz : (k : Int) = kz) (ht : sv_ty ci k = .int) (hi : i < S.1) (hk : (S.2 i).1 = ci) (ha : sv_in a) (kk : sv_T X R M Z kc ks (pc + 3) ls st S (sv_u f i kz a) r g) : sv_T X R M Z kc ks pc ls (sv_i a :: sv_r i :: st) S f r g := by
  subst hz
  refine sv_fr fun hin => ?_
  exact sv_put0 hw hd hfin hi hk (v := sv_i a) (by rw [ht]; simp [sv_u, sv_fv, sv_cv]) (by rw [ht]; rfl) (by rw [ht]; rfl) (fun j h => sv_u_ne h) (fun _ _ => rfl) (fun _ _ => rfl) (fun j h => by simp [sv_u]; omega) (fun _ _ => rfl) (fun _ _ => rfl) (sv_u_in hin ha) kk
theorem sv_putL {idx ci k i : Nat} {kz : Int} {a : Int64} {fin : Bool} (hw : sv_fl M.1.cls idx ci k fin) (hd : decode M.2.1 pc = .ok (.putfield idx, 3)) (hfin : fin = false ∨ (M.1.name = "<init>" ∧ ∃ q, vwCl[ci]? = some q ∧ q.1 = M.1.cls)) (hz : (k : Int) = kz) (ht : sv_ty ci k = .long) (hi : i < S.1) (hk : (S.2 i).1 = ci) (kk : sv_T X R M Z kc ks (pc + 3) ls st S f r (sv_ug g i kz a)) : sv_T X R M Z kc ks pc ls (sv_l a :: sv_r i :: st) S f r g := by
  subst hz
  refine sv_fr fun hin => ?_
  exact sv_put0 hw hd hfin hi hk (v := sv_l a) (by rw [ht]; simp [sv_ug, sv_fv, sv_cv]) (by rw [ht]; rfl) (by rw [ht]; rfl) (fun _ _ => rfl) (fun _ _ => rfl) (fun j h => sv_ug_ne h) (fun _ _ => rfl) (fun _ _ => rfl) (fun j h => by simp [sv_ug]; omega) hin kk
theorem sv_putR {idx ci k i j : Nat} {kz : Int} {fin : Bool} (hw : sv_fl M.1.cls idx ci k fin) (hd : decode M.2.1 pc = .ok (.putfield idx, 3)) (hfin : fin = false ∨ (M.1.name = "<init>" ∧ ∃ q, vwCl[ci]? = some q ∧ q.1 = M.1.cls)) (hz : (k : Int) = kz) (ht : sv_isr (sv_ty ci k) = true) (hi : i < S.1) (hk : (S.2 i).1 = ci) (kk : sv_T X R M Z kc ks (pc + 3) ls st S f (sv_ur r i kz (some j)) g) : sv_T X R M Z kc ks pc ls (sv_r j :: sv_r i :: st) S f r g := by
  subst hz
  refine sv_fr fun hin => ?_
  refine sv_put0 hw hd hfin hi hk (v := sv_r j) (by rw [sv_fv_r ht]; simp [sv_ur, sv_cv]) ?_ ?_ (fun _ _ => rfl) (fun j h => sv_ur_ne h) (fun _ _ => rfl) (fun _ _ => rfl) (fun j h => by simp [sv_ur]; omega) (fun _ _ => rfl) hin kk
  · cases h9 : sv_ty ci k <;> first | rfl | (rw [h9] at ht; simp [sv_isr] at ht)
  · cases h9 : sv_ty ci k <;> first | rfl | (rw [h9] at ht; simp [sv_isr] at ht)
theorem sv_iald {i n : Nat} {j : Int} (hd : decode M.2.1 pc = .ok (.iaload, 1)) (hi : i < S.1) (hk : S.2 i = (6, n)) (hj : 0 ≤ j ∧ j < (n : Int)) (kk : sv_T X R M Z kc ks (pc + 1) ls (sv_i (f i j) :: st) S f r g) : sv_T X R M Z kc ks pc ls (sv_i j :: sv_r i :: st) S f r g := by
  intro p l e s m args below meth c H locs la hF hP hS hH
  have hkk := kk p l e s m args below meth c H locs la hF hP hS hH
  have hn : n ≤ 100000 := by have := hP.2.2.2 i; rw [hk] at this; exact this
  obtain ⟨v1, v2⟩ := sv_vp hj hn
  refine va_iald hF.1 hF.2.1 hF.2.2.2.2.2.2.2.1.2.1 hP.1 i 0 (by rw [sv_ws_get hi, hk, sv_e_int]) rfl v1 hd ?_
  rw [v2]
  exact hkk
theorem sv_zald {i n : Nat} {j : Int} (hd : decode M.2.1 pc = .ok (.baload, 1)) (hi : i < S.1) (hk : S.2 i = (7, n)) (hj : 0 ≤ j ∧ j < (n : Int)) (kk : sv_T X R M Z kc ks (pc + 1) ls (sv_i (f i j) :: st) S f r g) : sv_T X R M Z kc ks pc ls (sv_i j :: sv_r i :: st) S f r g := by
  intro p l e s m args below meth c H locs la hF hP hS hH
  have hkk := kk p l e s m args below meth c H locs la hF hP hS hH
  have hn : n ≤ 100000 := by have := hP.2.2.2 i; rw [hk] at this; exact this
  obtain ⟨v1, v2⟩ := sv_vp hj hn
  refine va_zald hF.1 hF.2.1 hF.2.2.2.2.2.2.2.1.2.1 hP.1 i 1 (by rw [sv_ws_get hi, hk, sv_e_bool]) rfl v1 hd ?_
  rw [v2]
  exact hkk
theorem sv_aald {i n t j2 : Nat} {j : Int} (hd : decode M.2.1 pc = .ok (.aaload, 1)) (hi : i < S.1) (ht : t < 3) (hk : S.2 i = (8 + t, n)) (hj : 0 ≤ j ∧ j < (n : Int)) (hr : r i j = some j2) (kk : sv_T X R M Z kc ks (pc + 1) ls (sv_r j2 :: st) S f r g) : sv_T X R M Z kc ks pc ls (sv_i j :: sv_r i :: st) S f r g := by
  intro p l e s m args below meth c H locs la hF hP hS hH
  have hkk := kk p l e s m args below meth c H locs la hF hP hS hH
  have hn : n ≤ 100000 := by have := hP.2.2.2 i; rw [hk] at this; exact this
  obtain ⟨v1, v2⟩ := sv_vp hj hn
  have hK := hF.2.2.2.2.2.2.2.1.2.1
  have he : (sv_ws X S f r g)[i]? = some (X.1 + i, .inl (X.2.2.1 (2 + t), n, .inr (.inr (.inr (.inr (fun j => (r i (j : Int)).map (X.1 + ·))))))) := by rw [sv_ws_get hi, hk, sv_e_ref]
  obtain ⟨ty, hty, hre⟩ : ∃ ty : FieldType, (sv_tys X)[2 + t]? = some (X.2.2.1 (2 + t), ty) ∧ ty.isReference = true := by
    rcases (show t = 0 ∨ t = 1 ∨ t = 2 by omega) with rfl | rfl | rfl <;> exact ⟨_, rfl, rfl⟩
  have hlt : (Int32.ofInt j).toNatClampNeg < n := by omega
  refine W.aald (v := .ref (X.1 + j2)) (ty := ty) hF.1 hF.2.1 (hP.1 i _ he) ((hK.2 _ _ hty).1 n (fun j => va_rf ((r i (j : Int)).map (X.1 + ·)))) hre (fun q => by cases q) (by show ¬ (_ ∨ (arrV _ _ _).slots.size ≤ _); rw [arrV_size]; exact v1) (by show (arrV _ _ _).slots[_]? = _; rw [arrV_read _ _ hlt]; show some (va_rf (Option.map _ (r i ((Int32.ofInt j).toNatClampNeg : Int)))) = _; rw [v2, hr]; rfl) rfl rfl hd hkk
theorem sv_alen {i kd n : Nat} (hd : decode M.2.1 pc = .ok (.arraylength, 1)) (hi : i < S.1) (hk : S.2 i = (6 + kd, n)) (hkd : kd < 5) (kk : sv_T X R M Z kc ks (pc + 1) ls (sv_i n :: st) S f r g) : sv_T X R M Z kc ks pc ls (sv_r i :: st) S f r g := by
  intro p l e s m args below meth c H locs la hF hP hS hH
  have hkk := kk p l e s m args below meth c H locs la hF hP hS hH
  have he : ∃ z, (sv_ws X S f r g)[i]? = some (X.1 + i, .inl (X.2.2.1 kd, n, z)) := by
    rw [sv_ws_get hi, hk]
    unfold sv_e
    rw [if_neg (by show ¬ 6 + kd < 6; omega)]
    show ∃ z, some (X.1 + i, if 6 + kd < 8 then Sum.inl (X.2.2.1 (6 + kd - 6), n, _) else Sum.inl (X.2.2.1 (6 + kd - 6), n, _)) = _
    rw [show 6 + kd - 6 = kd by omega]
    split <;> exact ⟨_, rfl⟩
  obtain ⟨z, he⟩ := he
  obtain ⟨ty, hty⟩ : ∃ ty, (sv_tys X)[kd]? = some (X.2.2.1 kd, ty) := by
    rcases (show kd = 0 ∨ kd = 1 ∨ kd = 2 ∨ kd = 3 ∨ kd = 4 by omega) with rfl | rfl | rfl | rfl | rfl <;> exact ⟨_, rfl⟩
  exact va_alen hF.1 hF.2.1 hF.2.2.2.2.2.2.2.1.2.1 hP.1 i kd he hty (v := Int32.ofInt n) rfl hd hkk
theorem sv_iast {i n : Nat} {j a : Int} (hd : decode M.2.1 pc = .ok (.iastore, 1)) (hi : i < S.1) (hk : S.2 i = (6, n)) (hj : 0 ≤ j ∧ j < (n : Int)) (ha : sv_in a) (kk : sv_T X R M Z kc ks (pc + 1) ls st S (sv_u f i j a) r g) : sv_T X R M Z kc ks pc ls (sv_i a :: sv_i j :: sv_r i :: st) S f r g := by
  intro p l e s m args below meth c H locs la hF hP hS hH
  have hn : n ≤ 100000 := by have := hP.2.2.2 i; rw [hk] at this; exact this
  obtain ⟨v1, v2⟩ := sv_vp hj hn
  have hK := hF.2.2.2.2.2.2.2.1.2.1
  have he : (sv_ws X S f r g)[i]? = some (X.1 + i, .inl (X.2.2.1 0, n, .inl (fun j => Int32.ofInt (f i (j : Int))))) := by rw [sv_ws_get hi, hk, sv_e_int]
  have hcell := hP.1 i _ he
  refine W.iast hF.1 hF.2.1 hcell ((hK.2 0 _ rfl).1 n (fun j => .int (Int32.ofInt (f i (j : Int))))) (fun q => by cases q) (by show ¬ (_ ∨ (arrV _ _ _).slots.size ≤ _); rw [arrV_size]; exact v1) rfl rfl hd fun H1 e1 z1 o1 => ?_
  refine kk p l e s m args below meth c H1 _ la hF ⟨?_, by rw [z1]; exact hP.2.1, sv_u_in hP.2.2.1 ha, hP.2.2.2⟩ (hS.put z1 o1 (by show X.1 ≤ X.1 + i; omega)) hH
  have hset : (sv_ws X S f r g).set i (X.1 + i, .inl (X.2.2.1 0, n, .inl (fun k => Int32.ofInt (sv_u f i j a i (k : Int))))) = sv_ws X S (sv_u f i j a) r g := by
    refine sv_ws_set (fun _ => ?_) (fun j h => sv_u_ne h) (fun _ _ => rfl) (fun _ _ => rfl)
    rw [hk, sv_e_int]
  rw [← hset]
  refine hP.1.set sv_ws_D he ?_ o1
  show H1[X.1 + i]? = some (vp_cell _ _)
  rw [e1]
  rw [vp_cell_i, vp_cell_i, arrV_store]
  congr 2
  funext q
  by_cases hq : q = (Int32.ofInt j).toNatClampNeg
  · subst hq
    simp [updV, sv_u, v2]
    try rfl
  · have : ¬ ((q : Int) = j) := by omega
    simp [updV, sv_u, hq, this]
theorem sv_zast {i n : Nat} {j a : Int} (hd : decode M.2.1 pc = .ok (.bastore, 1)) (hi : i < S.1) (hk : S.2 i = (7, n)) (hj : 0 ≤ j ∧ j < (n : Int)) (ha : a = 0 ∨ a = 1) (kk : sv_T X R M Z kc ks (pc + 1) ls st S (sv_u f i j a) r g) : sv_T X R M Z kc ks pc ls (sv_i a :: sv_i j :: sv_r i :: st) S f r g := by
  intro p l e s m args below meth c H locs la hF hP hS hH
  have hn : n ≤ 100000 := by have := hP.2.2.2 i; rw [hk] at this; exact this
  obtain ⟨v1, v2⟩ := sv_vp hj hn
  have hK := hF.2.2.2.2.2.2.2.1.2.1
  have he : (sv_ws X S f r g)[i]? = some (X.1 + i, .inl (X.2.2.1 1, n, .inl (fun j => Int32.ofInt (f i (j : Int))))) := by rw [sv_ws_get hi, hk, sv_e_bool]
  have hcell := hP.1 i _ he
  refine W.zast hF.1 hF.2.1 hcell ((hK.2 1 _ rfl).1 n (fun j => .int (Int32.ofInt (f i (j : Int))))) (fun q => by cases q) (by show ¬ (_ ∨ (arrV _ _ _).slots.size ≤ _); rw [arrV_size]; exact v1) rfl rfl hd fun H1 e1 z1 o1 => ?_
  refine kk p l e s m args below meth c H1 _ la hF ⟨?_, by rw [z1]; exact hP.2.1, sv_u_in hP.2.2.1 (by omega), hP.2.2.2⟩ (hS.put z1 o1 (by show X.1 ≤ X.1 + i; omega)) hH
  have hset : (sv_ws X S f r g).set i (X.1 + i, .inl (X.2.2.1 1, n, .inl (fun k => Int32.ofInt (sv_u f i j a i (k : Int))))) = sv_ws X S (sv_u f i j a) r g := by
    refine sv_ws_set (fun _ => ?_) (fun j h => sv_u_ne h) (fun _ _ => rfl) (fun _ _ => rfl)
    rw [hk, sv_e_bool]
  rw [← hset]
  refine hP.1.set sv_ws_D he ?_ o1
  show H1[X.1 + i]? = some (vp_cell _ _)
  rw [e1]
  rw [vp_cell_i, vp_cell_i, arrV_store]
  have hnr : narrow .boolean (.int (Int32.ofInt a)) = .int (Int32.ofInt a) := by rcases ha with rfl | rfl <;> rfl
  congr 2
  funext q
  by_cases hq : q = (Int32.ofInt j).toNatClampNeg
  · subst hq
    simp [updV, sv_u, v2, hnr]
    try rfl
  · have : ¬ ((q : Int) = j) := by omega
    simp [updV, sv_u, hq, this]
/-- storing one of our objects into an array of its class -/
theorem sv_aast {i n t ci j2 : Nat} {j : Int} (hd : decode M.2.1 pc = .ok (.aastore, 1)) (hi : i < S.1) (ht : t < 2) (hci : ci = t) (hk : S.2 i = (8 + t, n)) (hj : 0 ≤ j ∧ j < (n : Int)) (hj2 : j2 < S.1) (hk2 : (S.2 j2).1 = ci) (kk : sv_T X R M Z kc ks (pc + 1) ls st S f (sv_ur r i j (some j2)) g) : sv_T X R M Z kc ks pc ls (sv_r j2 :: sv_i j :: sv_r i :: st) S f r g := by
  intro p l e s m args below meth c H locs la hF hP hS hH
  have hn : n ≤ 100000 := by have := hP.2.2.2 i; rw [hk] at this; exact this
  obtain ⟨v1, v2⟩ := sv_vp hj hn
  have hK := hF.2.2.2.2.2.2.2.1.2.1
  have he : (sv_ws X S f r g)[i]? = some (X.1 + i, .inl (X.2.2.1 (2 + t), n, .inr (.inr (.inr (.inr (fun j => (r i (j : Int)).map (X.1 + ·))))))) := by rw [sv_ws_get hi, hk, sv_e_ref]
  have he2 : (sv_ws X S f r g)[j2]? = some (X.1 + j2, .inr (ci, sv_fs X.1 ci (f j2) (r j2) (g j2))) := by rw [sv_ws_get hj2, sv_e_obj hk2 (by omega)]
  obtain ⟨q, hty, hcq⟩ : ∃ q : vw_C, (sv_tys X)[2 + t]? = some (X.2.2.1 (2 + t), .object q.1) ∧ vwCl[ci]? = some q := by
    rcases (show t = 0 ∨ t = 1 by omega) with rfl | rfl <;> subst hci <;> exact ⟨_, rfl, rfl⟩
  have hlt : (Int32.ofInt j).toNatClampNeg < n := by omega
  have h0 : ¬ Int32.ofInt j < 0 := fun q => v1 (Or.inl q)
  have hcell := hP.1 i _ he
  obtain ⟨r', hr', cellV, g1, g2, g3, -⟩ := hP.1 j2 _ he2
  have hcls := (hK.1 ci q hcq).2
  obtain ⟨kA, comp, k1, k2, k3, -⟩ := (hK.2 _ _ hty).2
  have hcomp : comp = X.2.1.1 ci := Option.some.inj (k3.symm.trans hcls.1)
  subst hcomp
  obtain ⟨kC, hkC, -⟩ := hcls.2
  refine W.aast hF.1 hF.2.1 hcell (fun q h => by cases h) (fun h => by cases h) k1 k2 rfl hkC ⟨h0, by show _ < (arrV _ _ _).slots.size; rw [arrV_size]; exact hlt⟩ g1 (fun q h => by rw [g3] at h; cases h) (by rw [g2]; exact hkC) (by rw [g2]; exact va_assign hcls) rfl rfl hd fun H1 e1 z1 o1 => ?_
  refine kk p l e s m args below meth c H1 _ la hF ⟨?_, by rw [z1]; exact hP.2.1, hP.2.2.1, hP.2.2.2⟩ (hS.put z1 o1 (by show X.1 ≤ X.1 + i; omega)) hH
  have hset : (sv_ws X S f r g).set i (X.1 + i, .inl (X.2.2.1 (2 + t), n, .inr (.inr (.inr (.inr (fun k => (sv_ur r i j (some j2) i (k : Int)).map (X.1 + ·))))))) = sv_ws X S f (sv_ur r i j (some j2)) g := by
    refine sv_ws_set (fun _ => ?_) (fun _ _ => rfl) (fun j h => sv_ur_ne h) (fun _ _ => rfl)
    rw [hk, sv_e_ref]
  rw [← hset]
  refine hP.1.set sv_ws_D he ?_ o1
  show H1[X.1 + i]? = some (vp_cell _ _)
  rw [e1]
  rw [vp_cell_q, vp_cell_q, arrV_store]
  congr 2
  funext q
  by_cases hq : q = (Int32.ofInt j).toNatClampNeg
  · subst hq
    simp [updV, sv_ur, va_rf, v2]
  · have : ¬ ((q : Int) = j) := by omega
    simp [updV, sv_ur, hq, this]
end SVHEAP
end
section
def sv_rm (d mc ms : Nat) : Room := { frames := d, cells := mc, slots := ms, locals := 36 * d }
abbrev sv_Q : Type := Option sv_V → sv_S → sv_F → sv_R → sv_G → Prop
def sv_Pc (X : sv_X) (S : sv_S) (f : sv_F) (r : sv_R) (g : sv_G) : State → Prop := fun U => sv_K X U U.heap ∧ X.1 ≤ U.heap.size ∧ sv_P X S f r g U.heap
def sv_Qc (X : sv_X) (Q : sv_Q) : Array Value → State → Outcome → State → Prop := fun _ st oc t => (∃ (rv : Option sv_V) (S' : sv_S) (f' : sv_F) (r' : sv_R) (g' : sv_G), oc = .returned (rv.map (sv_cv X.1)) ∧ Q rv S' f' r' g' ∧ sv_P X S' f' r' g' t.heap) ∧ va_F (fun q => X.1 ≤ q) st t
/-- a method's contract: from the cells f, r, g of the shape S and the arguments av it returns, and Q holds of its answer and of the cells then -/
def sv_C (X : sv_X) (d : Nat) (M : sv_M) (mc ms : Nat) (av : List sv_V) (S : sv_S) (f : sv_F) (r : sv_R) (g : sv_G) (Q : sv_Q) : Prop := ∀ l : Launch, Met l M.1 [Cond.code M.1 M.2.1 M.2.2.1 M.2.2.2] (sv_rm d mc ms) (va_Pc (av.map (sv_cv X.1)) (sv_Pc X S f r g)) (sv_Qc X Q) mc ms (fun q => X.1 ≤ q)
def sv_Zm (X : sv_X) (mc ms : Nat) (Q : sv_Q) : sv_Z := fun below args s => MQ below (sv_Qc X Q) args s mc ms (fun q => X.1 ≤ q)
def sv_ent : List sv_V → Nat → sv_L
  | [], n => List.replicate n none
  | v :: vs, n => if sv_lng (some (some v)) = true then some v :: none :: sv_ent vs (n - 2) else some v :: sv_ent vs (n - 1)
theorem sv_ent_mem {b : Nat} : ∀ (av : List sv_V) (n o i : Nat) (v : sv_V), (sv_ent av n)[i]? = some (some v) → (o + i, sv_cv b v) ∈ lv_args o (av.map (sv_cv b)) := by
  intro av
  induction av with
  | nil =>
    intro n o i v h
    simp [sv_ent, List.getElem?_replicate] at h
  | cons w vs ih =>
    intro n o i v h
    show _ ∈ (o, sv_cv b w) :: lv_args (if (sv_cv b w).category = 2 then o + 2 else o + 1) (vs.map (sv_cv b))
    unfold sv_ent at h
    by_cases hl : sv_lng (some (some w)) = true
    · rw [if_pos hl] at h
      have hc : (sv_cv b w).category = 2 := by
        rcases w with a | a | x | a
        · simp [sv_lng] at hl
        · simp [sv_lng] at hl
        · rfl
        · simp [sv_lng] at hl
      rw [if_pos hc]
      match i, h with
      | 0, h => cases h; exact List.mem_cons_self
      | 1, h => cases h
      | i + 2, h =>
        have := ih (n - 2) (o + 2) i v h
        rw [show o + 2 + i = o + (i + 2) by omega] at this
        exact List.mem_cons_of_mem _ this
    · rw [if_neg hl] at h
      have hc : ¬ (sv_cv b w).category = 2 := fun q => hl (sv_cat2 q)
      rw [if_neg hc]
      match i, h with
      | 0, h => cases h; exact List.mem_cons_self
      | i + 1, h =>
        have := ih (n - 1) (o + 1) i v h
        rw [show o + 1 + i = o + (i + 1) by omega] at this
        exact List.mem_cons_of_mem _ this
theorem sv_met {X : sv_X} {d mc ms : Nat} {M : sv_M} {av : List sv_V} {S : sv_S} {f : sv_F} {r : sv_R} {g : sv_G} {Q : sv_Q} (hy : plainName M.1.cls = true) (hlen : (lg_sl (av.map (sv_cv X.1))).length ≤ M.2.2.1)
    (h : sv_T X (sv_rm d mc ms) M (sv_Zm X mc ms Q) 0 0 0 (sv_ent av M.2.2.1) [] S f r g) : sv_C X d M mc ms av S f r g Q := by
  intro l
  refine Met.ofW (cc := M.2.1) (maxL := M.2.2.1) (ret := M.2.2.2) hy rfl ?_
  intro p e s m args below meth c s₁ B hml hv
  obtain ⟨rfl, hK, hz, hP⟩ := hv
  have hown : s.vm.findClass M.1.cls = some m.cls := findClass_of_methodNamed B.named
  have hin : meth.name = M.1.name := (name_of_methodNamed B.named B.method).1
  have hle := lv_entry (av.map (sv_cv X.1)) hlen
  rw [lg_entry_eq]
  generalize hla : (lg_sl (av.map (sv_cv X.1)) ++ List.replicate (M.2.2.1 - (lg_sl (av.map (sv_cv X.1))).length) Slot.unset).toArray = la at hle ⊢
  refine h p l e s m _ below meth c s.heap [] la ⟨B.exec, B.bytes, B.returns, hml, hown, B.notSynchronized, hin, hK, hz⟩ hP va_S.rf (sv_H_of hle fun q hq => ?_)
  obtain ⟨v, h1, h2⟩ := sv_ps_mem.mp hq
  have := sv_ent_mem (b := X.1) av M.2.2.1 0 q.1 v h1
  rw [Nat.zero_add, ← h2] at this
  exact this
section SVCALL
variable {X : sv_X} {R : Room} {M : sv_M} {Z : sv_Z} {kc ks : Nat} {pc : Nat} {ls : sv_L} {st : List sv_V} {S : sv_S} {f : sv_F} {r : sv_R} {g : sv_G}
theorem sv_widen {k2 n2 : Nat} (h1 : kc ≤ k2) (h2 : ks ≤ n2) (k : sv_T X R M Z k2 n2 pc ls st S f r g) : sv_T X R M Z kc ks pc ls st S f r g := by
  intro p l e s m args below meth c H locs la hF hP hS hH
  exact W.widen h1 h2 (k p l e s m args below meth c H locs la hF hP hS hH)
theorem sv_ireturn {Q : sv_Q} {mc ms : Nat} {a : Int} (hd : decode M.2.1 pc = .ok (.ireturn, 1)) (hr : M.2.2.2 = some .int) (hq : Q (some (sv_i a)) S f r g) : sv_T X R M (sv_Zm X mc ms Q) mc ms pc ls [sv_i a] S f r g := by
  intro p l e s m args below meth c H locs la hF hP hS hH
  have hlocks := hF.2.2.2.2.2.1
  exact W.iret hF.1 hF.2.1 (hF.2.2.1.trans hr) (fun t ht hW => ⟨⟨_, _, _, _, _, rfl, hq, by rw [ht]; exact hP⟩, hS.F ht⟩) hS.2.2 hd
theorem sv_zreturn {Q : sv_Q} {mc ms : Nat} {a : Int} (hd : decode M.2.1 pc = .ok (.ireturn, 1)) (hr : M.2.2.2 = some .boolean) (ha : a = 0 ∨ a = 1) (hq : Q (some (sv_i a)) S f r g) : sv_T X R M (sv_Zm X mc ms Q) mc ms pc ls [sv_i a] S f r g := by
  intro p l e s m args below meth c H locs la hF hP hS hH
  have hlocks := hF.2.2.2.2.2.1
  exact W.zret hF.1 hF.2.1 (hF.2.2.1.trans hr) (by rcases ha with rfl | rfl <;> rfl) (fun t ht hW => ⟨⟨_, _, _, _, _, rfl, hq, by rw [ht]; exact hP⟩, hS.F ht⟩) hS.2.2 hd
theorem sv_lreturn {Q : sv_Q} {mc ms : Nat} {a : Int64} (hd : decode M.2.1 pc = .ok (.lreturn, 1)) (hr : M.2.2.2 = some .long) (hq : Q (some (sv_l a)) S f r g) : sv_T X R M (sv_Zm X mc ms Q) mc ms pc ls [sv_l a] S f r g := by
  intro p l e s m args below meth c H locs la hF hP hS hH
  have hlocks := hF.2.2.2.2.2.1
  exact W.lret hF.1 hF.2.1 (hF.2.2.1.trans hr) (fun t ht hW => ⟨⟨some (sv_l a), _, _, _, _, rfl, hq, by rw [ht]; exact hP⟩, hS.F ht⟩) hS.2.2 hd
theorem sv_return {Q : sv_Q} {mc ms : Nat} (hd : decode M.2.1 pc = .ok (.return_, 1)) (hr : M.2.2.2 = none) (hq : Q none S f r g) : sv_T X R M (sv_Zm X mc ms Q) mc ms pc ls [] S f r g := by
  intro p l e s m args below meth c H locs la hF hP hS hH
  have hlocks := hF.2.2.2.2.2.1
  exact W.vret hF.1 hF.2.1 (hF.2.2.1.trans hr) (fun t ht hW => ⟨⟨none, _, _, _, _, rfl, hq, by rw [ht]; exact hP⟩, hS.F ht⟩) hS.2.2 hd
/-- what a call needs of the tables: the callee's code, its class at rest, how many arguments -/
def sv_cc (own : String) (idx : Nat) (M' : sv_M) (n : Nat) : Prop := Cond.code M'.1 M'.2.1 M'.2.2.1 M'.2.2.2 ∈ lw_tbl ∧ Cond.initialized M'.1.cls ∈ lw_tbl ∧ (M'.1.cls ≠ "java/lang/invoke/MethodHandle" ∧ M'.1.cls ≠ "java/lang/invoke/VarHandle") ∧ (parseMethodDescriptor M'.1.desc).map (fun d => d.parameters.length) = some n ∧ (Cond.methodLink own idx M'.1 ∈ lw_tbl ∨ ∃ host, Cond.methodLinkNest own idx M'.1 host ∈ lw_tbl)
def sv_cV (own : String) (idx : Nat) (M' : sv_M) (n : Nat) : Prop := sv_cc own idx M' n ∧ Cond.instanceMethod M'.1 ∈ lw_tbl ∧ Cond.selects M'.1.cls M'.1 M'.1 ∈ lw_tbl
def sv_cS (own : String) (idx : Nat) (M' : sv_M) (n : Nat) : Prop := sv_cc own idx M' n ∧ Cond.static M'.1 ∈ lw_tbl
def sv_cI (own : String) (idx : Nat) (M' : sv_M) (n : Nat) : Prop := sv_cc own idx M' n ∧ Cond.instanceMethod M'.1 ∈ lw_tbl ∧ M'.1.name = "<init>" ∧ M'.2.2.2 = none
theorem sv_blind {av : List Value} : FrameBlind (va_Pc av (sv_Pc X S f r g)) := by
  intro a U g0 mk ⟨q0, q1, q2, q3⟩
  exact ⟨q0, q1.moved (U := U.calling g0 mk a) (State.WarmedH.refl U), q2, q3⟩
theorem sv_pc {s : State} {H : Heap} {locs : List Loc} {av : List Value} (hK : sv_K X s s.heap) (hz : X.1 ≤ s.heap.size) (hS : va_S (fun q => X.1 ≤ q) s.heap H locs) (hP : sv_P X S f r g H) (U : State) (hU : U.heap = H) (hW : s.WarmedH U.vm) : va_Pc av (sv_Pc X S f r g) av.toArray U := by
  have h1 := (hK.kept (H1 := H) hS.1 hS.2.1).moved hW
  exact ⟨rfl, by rw [hU]; exact h1, by rw [hU]; exact Nat.le_trans hz hS.1, by rw [hU]; exact hP⟩
theorem sv_goes {p : Program} {l : Launch} {e : Env} {s : State} {m : MethodId} {args : Array Value} {below : List Frame} {meth : Method} {c : Code} {H : Heap} {locs : List Loc} {la : Array Slot} {mc ms : Nat} {st0 rest : List Value} {a : Array Value} {Q : sv_Q} {Qw : State → Prop}
    (hr : va_Run p l e R s m args below meth c H locs kc ks mc ms (F0 m pc la st0) rest (sv_Qc X Q a) (fun q => X.1 ≤ q)) (hS : va_S (fun q => X.1 ≤ q) s.heap H locs)
    (kk : ∀ (rv : Option sv_V) (S' : sv_S) (f' : sv_F) (r' : sv_R) (g' : sv_G) (H1 : Heap) (locs1 : List Loc), Q rv S' f' r' g' → sv_P X S' f' r' g' H1 → va_S (fun q => X.1 ≤ q) s.heap H1 locs1 → W p l e R s m args below meth c H1 locs1 (kc + mc) (ks + ms) Qw (F0 m (pc + 3) la ((rv.map (sv_cv X.1)).toList ++ rest))) : W p l e R s m args below meth c H locs kc ks Qw (F0 m pc la st0) := by
  intro T hT Xs
  obtain ⟨v, st₀, t, T', L, h0, X', hL, e1, e2, ⟨⟨rv, S', f', r', g', hv, hq, hP⟩, hz, hk⟩, st⟩ := hr T hT Xs
  cases hv
  rw [h0] at hz hk
  obtain ⟨t2, a1, b1⟩ := kk rv S' f' r' g' T'.heap (locs ++ L) hq (by rw [e1]; exact hP)
    ⟨Nat.le_trans hS.1 (by rw [e1]; exact hz), fun q h1 h2 => by rw [e1, hk q (Nat.lt_of_lt_of_le h1 hS.1) h2]; exact hS.2.1 q h1 h2, fun q hq => by
      rcases List.mem_append.mp hq with h | h
      · exact hS.2.2 q h
      · exact hL q h⟩ T' rfl X'
  exact ⟨t2, st t2 a1, b1⟩
theorem sv_good {s : State} {M' : sv_M} (hK : sv_W s) (hc : Cond.code M'.1 M'.2.1 M'.2.2.1 M'.2.2.2 ∈ lw_tbl) : ∀ w ∈ [Cond.code M'.1 M'.2.1 M'.2.2.1 M'.2.2.2], ∀ (a' : Array Value) (U : State), s.WarmedH U.vm → w.before a' U = true := by
  intro w hw a' U hW
  rw [List.mem_singleton] at hw
  subst hw
  exact hK.go hW hc rfl
theorem sv_roomy {la : Array Slot} {m : MethodId} {b : Nat} {rest : List sv_V} (h : 2 * rest.length ≤ 8) : 2 * (F0 m pc la []).monitorRoom + ((rest.map (sv_cv b)).map fun v => v.category).sum ≤ 8 := by
  have h2 : ∀ l : List sv_V, ((l.map (sv_cv b)).map fun v => v.category).sum ≤ 2 * l.length := by
    intro l
    induction l with
    | nil => simp
    | cons v vs ih =>
      have : (sv_cv b v).category ≤ 2 := by rcases lv_cat (sv_cv b v) with h | h <;> omega
      simp only [List.map_cons, List.sum_cons, List.length_cons]
      omega
  exact lv_room (m := m) (pc := pc) (ls := la) (rest := []) (Nat.le_trans (h2 rest) h)
theorem sv_callV {M' : sv_M} {idx d mc ms i n : Nat} {As rest : List sv_V} {Q : sv_Q} (hl : sv_cV M.1.cls idx M' n) (hM : sv_C X d M' mc ms (sv_r i :: As) S f r g Q) (hR : d + 1 ≤ R.frames ∧ 8 + (M'.2.2.1 + 11) + 36 * d ≤ R.locals) (hc : kc + mc ≤ R.cells ∧ ks + ms ≤ R.slots) (hi : i < S.1) {ci : Nat} (hk : (S.2 i).1 = ci) (hcl : ∃ q, vwCl[ci]? = some q ∧ q.1 = M'.1.cls) (hci : ci < 6) (hn : As.length = n) (hst : 2 * rest.length ≤ 8) (hd : decode M.2.1 pc = .ok (.invokevirtual idx, 3))
    (kk : ∀ (rv : Option sv_V) (S' : sv_S) (f' : sv_F) (r' : sv_R) (g' : sv_G), Q rv S' f' r' g' → sv_T X R M Z (kc + mc) (ks + ms) (pc + 3) ls (rv.toList ++ rest) S' f' r' g') : sv_T X R M Z kc ks pc ls (As.reverse ++ sv_r i :: rest) S f r g := by
  intro p l e s m args below meth c H locs la hF hP hS hH
  have hKK := hF.2.2.2.2.2.2.2.1
  have hz := hF.2.2.2.2.2.2.2.2
  obtain ⟨⟨h1, h2, h3, h4, h5⟩, h6, h7⟩ := hl
  have hwt := hKK.1
  obtain ⟨q, hq1, hq2⟩ := hcl
  have he : (sv_ws X S f r g)[i]? = some (X.1 + i, .inr (ci, sv_fs X.1 ci (f i) (r i) (g i))) := by rw [sv_ws_get hi, sv_e_obj hk hci]
  have hrecv := va_recv hKK.2.1 hP.1 hq1 he
  rw [hq2] at hrecv
  have hcat := sv_roomy (m := m) (pc := pc) (la := la) (b := X.1) hst
  have go : va_Run p l e R s m args below meth c H locs kc ks mc ms (F0 m pc la ((As.reverse ++ sv_r i :: rest).map (sv_cv X.1))) (rest.map (sv_cv X.1)) (sv_Qc X Q (Value.ref (X.1 + i) :: As.map (sv_cv X.1)).toArray) (fun q => X.1 ≤ q) := by
    have hpv : PreV s H M'.1.cls (X.1 + i) (va_Pc ((sv_r i :: As).map (sv_cv X.1)) (sv_Pc X S f r g)) (As.map (sv_cv X.1)) := ⟨sv_blind, hrecv, fun U hU hW => sv_pc hKK hz hS hP U hU hW⟩
    have hnp : ∀ sig, parseMethodDescriptor M'.1.desc = some sig → n = sig.parameters.length := fun sig hs => by
      rw [hs] at h4
      exact (Option.some.inj h4).symm
    have hstk : (F0 m pc la ((As.reverse ++ sv_r i :: rest).map (sv_cv X.1))).stack = (As.map (sv_cv X.1)).reverse ++ .ref (X.1 + i) :: rest.map (sv_cv X.1) := by
      show (As.reverse ++ sv_r i :: rest).map (sv_cv X.1) = _
      rw [List.map_append, List.map_reverse]
      rfl
    rcases h5 with h5 | ⟨host, h5⟩
    · exact va_runV (Ts := []) ⟨hF.1, hF.2.1, hF.2.2.2.1, hF.2.2.2.2.1, fun _ h => by cases h⟩ (hM l) ⟨⟨rfl, rfl, hR.1, hR.2, sv_good hwt h1, List.mem_cons_self, hwt.use h1 rfl, hwt.use h2 rfl, h3, hnp, hwt.use h5 rfl⟩, hwt.use h6 rfl, hwt.use h7 rfl⟩ hpv rfl (by rw [List.length_map]; exact hn) hH.1 hstk hcat hd hc
    · exact va_runVN (Ts := []) ⟨hF.1, hF.2.1, hF.2.2.2.1, hF.2.2.2.2.1, fun _ h => by cases h⟩ (hM l) ⟨⟨⟨rfl, rfl, hR.1, hR.2, sv_good hwt h1, List.mem_cons_self⟩, hwt.use h1 rfl, hwt.use h2 rfl, h3, hnp, hwt.use h5 (by unfold sv_ok; exact Bool.or_true _)⟩, hwt.use h6 rfl, hwt.use h7 rfl⟩ hpv rfl (by rw [List.length_map]; exact hn) hH.1 hstk hcat hd hc
  refine sv_goes go hS fun rv S' f' r' g' H1 locs1 hq hP1 hS1 => ?_
  have := kk rv S' f' r' g' hq p l e s m args below meth c H1 locs1 la hF hP1 hS1 hH
  rw [List.map_append] at this
  cases rv <;> exact this
theorem sv_callS {M' : sv_M} {idx d mc ms n : Nat} {As rest : List sv_V} {Q : sv_Q} (hl : sv_cS M.1.cls idx M' n) (hM : sv_C X d M' mc ms As S f r g Q) (hR : d + 1 ≤ R.frames ∧ 8 + (M'.2.2.1 + 11) + 36 * d ≤ R.locals) (hc : kc + mc ≤ R.cells ∧ ks + ms ≤ R.slots) (hn : As.length = n) (hst : 2 * rest.length ≤ 8) (hd : decode M.2.1 pc = .ok (.invokestatic idx, 3))
    (kk : ∀ (rv : Option sv_V) (S' : sv_S) (f' : sv_F) (r' : sv_R) (g' : sv_G), Q rv S' f' r' g' → sv_T X R M Z (kc + mc) (ks + ms) (pc + 3) ls (rv.toList ++ rest) S' f' r' g') : sv_T X R M Z kc ks pc ls (As.reverse ++ rest) S f r g := by
  intro p l e s m args below meth c H locs la hF hP hS hH
  have hKK := hF.2.2.2.2.2.2.2.1
  have hz := hF.2.2.2.2.2.2.2.2
  obtain ⟨⟨h1, h2, h3, h4, h5⟩, h6⟩ := hl
  have hwt := hKK.1
  have hcat := sv_roomy (m := m) (pc := pc) (la := la) (b := X.1) hst
  have go : va_Run p l e R s m args below meth c H locs kc ks mc ms (F0 m pc la ((As.reverse ++ rest).map (sv_cv X.1))) (rest.map (sv_cv X.1)) (sv_Qc X Q (As.map (sv_cv X.1)).toArray) (fun q => X.1 ≤ q) := by
    have hpv : PreS s H (va_Pc (As.map (sv_cv X.1)) (sv_Pc X S f r g)) (As.map (sv_cv X.1)) := ⟨sv_blind, fun U hU hW => sv_pc hKK hz hS hP U hU hW⟩
    have hnp : ∀ sig, parseMethodDescriptor M'.1.desc = some sig → n = sig.parameters.length := fun sig hs => by
      rw [hs] at h4
      exact (Option.some.inj h4).symm
    have hstk : (F0 m pc la ((As.reverse ++ rest).map (sv_cv X.1))).stack = (As.map (sv_cv X.1)).reverse ++ rest.map (sv_cv X.1) := by
      show (As.reverse ++ rest).map (sv_cv X.1) = _
      rw [List.map_append, List.map_reverse]
    rcases h5 with h5 | ⟨host, h5⟩
    · exact va_runS (Ts := []) ⟨hF.1, hF.2.1, hF.2.2.2.1, hF.2.2.2.2.1, fun _ h => by cases h⟩ (hM l) ⟨⟨rfl, rfl, hR.1, hR.2, sv_good hwt h1, List.mem_cons_self, hwt.use h1 rfl, hwt.use h2 rfl, h3, hnp, hwt.use h5 rfl⟩, hwt.use h6 rfl⟩ hpv rfl (by rw [List.length_map]; exact hn) hH.1 hstk hcat hd hc
    · exact va_runSN (Ts := []) ⟨hF.1, hF.2.1, hF.2.2.2.1, hF.2.2.2.2.1, fun _ h => by cases h⟩ (hM l) ⟨⟨⟨rfl, rfl, hR.1, hR.2, sv_good hwt h1, List.mem_cons_self⟩, hwt.use h1 rfl, hwt.use h2 rfl, h3, hnp, hwt.use h5 (by unfold sv_ok; exact Bool.or_true _)⟩, hwt.use h6 rfl, trivial⟩ hpv rfl (by rw [List.length_map]; exact hn) hH.1 hstk hcat hd hc
  refine sv_goes go hS fun rv S' f' r' g' H1 locs1 hq hP1 hS1 => ?_
  have := kk rv S' f' r' g' hq p l e s m args below meth c H1 locs1 la hF hP1 hS1 hH
  rw [List.map_append] at this
  cases rv <;> exact this
end SVCALL
end
section
/-- the first n of the row s laid over the row d -/
def sv_cp (f : sv_F) (d s : Nat) (n : Int) : sv_F := fun x y => if x = d ∧ 0 ≤ y ∧ y < n then f s y else f x y
section SVMORE
variable {X : sv_X} {R : Room} {M : sv_M} {Z : sv_Z} {kc ks : Nat} {pc : Nat} {ls : sv_L} {st : List sv_V} {S : sv_S} {f : sv_F} {r : sv_R} {g : sv_G}
theorem sv_sum {b : Nat} {rest : List sv_V} (h : 2 * rest.length ≤ 8) : ((rest.map (sv_cv b)).map fun v => v.category).sum ≤ 8 := by
  have h2 : ∀ l : List sv_V, ((l.map (sv_cv b)).map fun v => v.category).sum ≤ 2 * l.length := by
    intro l
    induction l with
    | nil => simp
    | cons v vs ih =>
      have : (sv_cv b v).category ≤ 2 := by rcases lv_cat (sv_cv b v) with h | h <;> omega
      simp only [List.map_cons, List.sum_cons, List.length_cons]
      omega
  exact Nat.le_trans (h2 rest) h
theorem sv_copy {idx i0 i1 n0 n1 : Nat} {n : Int} (hl : Cond.methodLink M.1.cls idx arraycopyName ∈ lw_tbl) (hw : Cond.native arraycopyName ∈ lw_tbl ∧ Cond.static arraycopyName ∈ lw_tbl ∧ Cond.initialized "java/lang/System" ∈ lw_tbl) (hi0 : i0 < S.1) (hk0 : S.2 i0 = (6, n0)) (hi1 : i1 < S.1) (hk1 : S.2 i1 = (6, n1)) (hn : 0 ≤ n ∧ n ≤ (n0 : Int) ∧ n ≤ (n1 : Int)) (hst : 2 * st.length ≤ 8) (hR : 1 ≤ R.frames ∧ 36 ≤ R.locals) (hd : decode M.2.1 pc = .ok (.invokestatic idx, 3))
    (kk : sv_T X R M Z kc ks (pc + 3) ls st S (sv_cp f i1 i0 n) r g) : sv_T X R M Z kc ks pc ls (sv_i n :: sv_i 0 :: sv_r i1 :: sv_i 0 :: sv_r i0 :: st) S f r g := by
  intro p l e s m args below meth c H locs la hF hP hS hH
  have hKK := hF.2.2.2.2.2.2.2.1
  have hwt := hKK.1
  have e0 : (sv_ws X S f r g)[i0]? = some (X.1 + i0, .inl (X.2.2.1 0, n0, .inl (fun j => Int32.ofInt (f i0 (j : Int))))) := by rw [sv_ws_get hi0, hk0, sv_e_int]
  have e1 : (sv_ws X S f r g)[i1]? = some (X.1 + i1, .inl (X.2.2.1 0, n1, .inl (fun j => Int32.ofInt (f i1 (j : Int))))) := by rw [sv_ws_get hi1, hk1, sv_e_int]
  have hn0 : n0 ≤ 100000 := by have := hP.2.2.2 i0; rw [hk0] at this; exact this
  have hn1 : n1 ≤ 100000 := by have := hP.2.2.2 i1; rw [hk1] at this; exact this
  have ez : (Int32.ofInt 0).toNatClampNeg = 0 := rfl
  have en : (Int32.ofInt n).toNatClampNeg = n.toNat := by rw [← Int32.toNat_toInt, sv_toInt (by omega)]
  have hz0 : ¬ Int32.ofInt 0 < 0 := by decide
  have hzn : ¬ Int32.ofInt n < 0 := by
    intro h
    have := (sv_ltI (x := n) (y := 0) (by omega) (by omega)).mp h
    omega
  have hcat := sv_sum (b := X.1) hst
  have hin : ∀ i j, sv_in (sv_cp f i1 i0 n i j) := by
    intro i j
    unfold sv_cp
    split <;> exact hP.2.2.1 _ _
  have hset : (sv_ws X S f r g).set i1 (X.1 + i1, .inl (X.2.2.1 0, n1, .inl (va_cpy (fun j => Int32.ofInt (f i0 (j : Int))) (fun j => Int32.ofInt (f i1 (j : Int))) (Int32.ofInt 0).toNatClampNeg (Int32.ofInt 0).toNatClampNeg (Int32.ofInt n).toNatClampNeg))) = sv_ws X S (sv_cp f i1 i0 n) r g := by
    refine sv_ws_set (fun _ => ?_) (fun j h => by funext y; simp [sv_cp, h]) (fun _ _ => rfl) (fun _ _ => rfl)
    rw [hk1, sv_e_int, ez, en]
    refine congrArg (fun z => Sum.inl (X.2.2.1 0, n1, Sum.inl z)) (funext fun j => ?_)
    by_cases hj : j < n.toNat
    · rw [pk_cpy_in (Nat.zero_le _) (by omega)]
      show Int32.ofInt (f i0 ((0 + (j - 0) : Nat) : Int)) = Int32.ofInt (sv_cp f i1 i0 n i1 (j : Int))
      unfold sv_cp
      rw [if_pos ⟨rfl, by omega, by omega⟩]
      simp
    · rw [pk_cpy_out (Or.inr (by omega))]
      unfold sv_cp
      rw [if_neg (by omega)]
  have hK := hKK.2.1
  have hc0 : H[X.1 + i0]? = some (vp_cell (X.2.2.1 0) (n0, .inl (fun j => Int32.ofInt (f i0 (j : Int))))) := hP.1 i0 _ e0
  have hc1 : H[X.1 + i1]? = some (vp_cell (X.2.2.1 0) (n1, .inl (fun j => Int32.ofInt (f i1 (j : Int))))) := hP.1 i1 _ e1
  obtain ⟨-, k0, hk0', cm0, hkk0⟩ := (hK.2 0 _ rfl).1 n0 (fun j => .int (Int32.ofInt (f i0 (j : Int))))
  obtain ⟨-, k1, hk1', cm1, hkk1⟩ := (hK.2 0 _ rfl).1 n1 (fun j => .int (Int32.ofInt (f i1 (j : Int))))
  have s0 : (vp_cell (X.2.2.1 0) (n0, .inl (fun j => Int32.ofInt (f i0 (j : Int))))).slots.size = n0 := by rw [vp_cell_i, arrV_size]
  have s1 : (vp_cell (X.2.2.1 0) (n1, .inl (fun j => Int32.ofInt (f i1 (j : Int))))).slots.size = n1 := by rw [vp_cell_i, arrV_size]
  have tz : (Int32.ofInt 0).toInt = 0 := rfl
  have tn : (Int32.ofInt n).toInt = n := sv_toInt (by omega)
  intro T hT Xs
  obtain ⟨vm', X', step⟩ := Xs.arraycopy hF.1 hF.2.2.2.2.1 (hwt.use hl rfl) (hwt.use hw.1 rfl) (hwt.use hw.2.1 rfl) (hwt.use hw.2.2 rfl) (src := X.1 + i0) (dst := X.1 + i1) (cs := vp_cell (X.2.2.1 0) (n0, .inl (fun j => Int32.ofInt (f i0 (j : Int))))) (cd := vp_cell (X.2.2.1 0) (n1, .inl (fun j => Int32.ofInt (f i1 (j : Int))))) (srcPos := Int32.ofInt 0) (destPos := Int32.ofInt 0) (n := Int32.ofInt n) (by rw [hT]; exact hc0) (by rw [hT]; exact hc1)
    (fun _ h => by cases h) (fun _ h => by cases h) (fun h => by cases h) (fun h => by cases h) hk0' hk1' hkk0 hkk1 (by simp [refKind]) hz0 hz0 hzn
    (by rw [tz, tn, s0]; omega) (by rw [tz, tn, s1]; omega)
    (fun vm₁ _ i hi => by
      have e : (vp_cell (X.2.2.1 0) (n0, .inl (fun j => Int32.ofInt (f i0 (j : Int))))).slots.getD ((Int32.ofInt 0).toNatClampNeg + i) .null = .int (Int32.ofInt (f i0 (((Int32.ofInt 0).toNatClampNeg + i : Nat) : Int))) := by
        show (arrV (X.2.2.1 0) n0 (fun j => .int (Int32.ofInt (f i0 (j : Int))))).slots.getD _ _ = _
        rw [Array.getD_eq_getD_getElem?, arrV_read _ _ (by omega)]
        rfl
      refine ⟨?_, ?_⟩
      · rw [e]
        rfl
      · rw [e]
        exact trivial)
    (g := F0 m pc la ((sv_i n :: sv_i 0 :: sv_r i1 :: sv_i 0 :: sv_r i0 :: st).map (sv_cv X.1))) rfl (by rw [hF.2.2.2.1]; exact hH.1) (rest := st.map (sv_cv X.1)) rfl (by rw [hF.2.1]; exact hd) hR.1 (by
      have h9 : nativeFrameWords "java/lang/System" "arraycopy" 5 + 11 ≤ 28 := by decide
      show 2 * 0 + _ + _ ≤ _
      omega)
  have hle : (Int32.ofInt 0).toNatClampNeg + (Int32.ofInt n).toNatClampNeg ≤ n0 := by rw [ez, en]; omega
  have e3 : copied (vp_cell (X.2.2.1 0) (n0, .inl (fun j => Int32.ofInt (f i0 (j : Int))))) (vp_cell (X.2.2.1 0) (n1, .inl (fun j => Int32.ofInt (f i1 (j : Int))))) (Int32.ofInt 0) (Int32.ofInt 0) (Int32.ofInt n) = vp_cell (X.2.2.1 0) (n1, .inl (va_cpy (fun j => Int32.ofInt (f i0 (j : Int))) (fun j => Int32.ofInt (f i1 (j : Int))) (Int32.ofInt 0).toNatClampNeg (Int32.ofInt 0).toNatClampNeg (Int32.ofInt n).toNatClampNeg)) := va_copied (fun z => .int z) (X.2.2.1 0) (X.2.2.1 0) (fun j => Int32.ofInt (f i0 (j : Int))) (fun j => Int32.ofInt (f i1 (j : Int))) (hle)
  rw [e3] at X' step
  generalize hcell : vp_cell (X.2.2.1 0) (n1, .inl (va_cpy (fun j => Int32.ofInt (f i0 (j : Int))) (fun j => Int32.ofInt (f i1 (j : Int))) (Int32.ofInt 0).toNatClampNeg (Int32.ofInt 0).toNatClampNeg (Int32.ofInt n).toNatClampNeg)) = nc at X' step
  have ha : X.1 + i1 < H.size := (Array.getElem?_eq_some_iff.mp hc1).1
  have hheap : ((T.setVm vm').setCell (X.1 + i1) nc).heap = H.setIfInBounds (X.1 + i1) nc := by rw [← hT]; rfl
  have oq : ∀ q : Nat, q ≠ X.1 + i1 → (H.setIfInBounds (X.1 + i1) nc)[q]? = H[q]? := fun q hq => by simp [Array.getElem?_setIfInBounds, Ne.symm hq]
  have hP1 : va_P X.2.1 vwCl (sv_ws X S (sv_cp f i1 i0 n) r g) (H.setIfInBounds (X.1 + i1) nc) := by
    rw [← hset]
    refine hP.1.set sv_ws_D e1 (show (H.setIfInBounds (X.1 + i1) nc)[X.1 + i1]? = some _ from ?_) oq
    rw [hcell]
    simp [Array.getElem?_setIfInBounds, ha]
  have hS1 : ∀ L : List Loc, (∀ q ∈ L, q.base = X.1 + i1) → va_S (fun q => X.1 ≤ q) s.heap (H.setIfInBounds (X.1 + i1) nc) (locs ++ L) := fun L hL => ⟨by simp; exact hS.1, fun q g1 g2 => by
      rw [oq q (fun e => g2 (by rw [e]; omega))]
      exact hS.2.1 q g1 g2, fun q hq => by
      rcases List.mem_append.mp hq with h | h
      · exact hS.2.2 q h
      · rw [hL q h]
        omega⟩
  obtain ⟨t, a1, b1⟩ := kk p l e s m args below meth c _ _ la hF ⟨hP1, by simp; exact hP.2.1, hin, hP.2.2.2⟩ (hS1 _ (fun q hq => by
      obtain ⟨z, -, hz⟩ := List.mem_map.mp hq
      rw [← hz])) hH _ hheap X'
  exact ⟨t, step t a1, b1⟩
theorem sv_max {idx : Nat} {x y : Int} (hl : Cond.methodLink M.1.cls idx Lib.Math.max.name ∈ lw_tbl) (hw : Cond.static Lib.Math.max.name ∈ lw_tbl ∧ Cond.initialized "java/lang/Math" ∈ lw_tbl ∧ Cond.code Lib.Math.max.name Lib.Math.max.code 2 (some .int) ∈ lw_tbl) (hst : 2 * st.length ≤ 8) (hR : 1 ≤ R.frames ∧ 36 ≤ R.locals) (hc : kc ≤ R.cells ∧ ks ≤ R.slots) (hx : sv_in x) (hy : sv_in y) (hd : decode M.2.1 pc = .ok (.invokestatic idx, 3))
    (kk : sv_T X R M Z kc ks (pc + 3) ls (sv_i (max x y) :: st) S f r g) : sv_T X R M Z kc ks pc ls (sv_i y :: sv_i x :: st) S f r g := by
  intro p l e s m args below meth c H locs la hF hP hS hH
  have hwt := hF.2.2.2.2.2.2.2.1.1
  have hkk := kk p l e s m args below meth c H locs la hF hP hS hH
  have hcat := sv_sum (b := X.1) hst
  refine va_mmax hF.1 hF.2.1 (by rw [hF.2.2.2.1]; exact hH.1.symm) hF.2.2.2.2.1 (hwt.use hl rfl) (hwt.use hw.1 rfl) (hwt.use hw.2.1 rfl) (hwt.use hw.2.2 rfl) hR.1 (by omega) hc.1 hc.2 hd ?_
  have e : (if Int32.ofInt x < Int32.ofInt y then Int32.ofInt y else Int32.ofInt x) = Int32.ofInt (max x y) := by
    by_cases h : x < y
    · rw [if_pos ((sv_ltI hx hy).mpr h), show max x y = y by omega]
    · rw [if_neg (fun q => h ((sv_ltI hx hy).mp q)), show max x y = x by omega]
  rw [e]
  exact hkk
theorem sv_min {idx : Nat} {x y : Int} (hl : Cond.methodLink M.1.cls idx Lib.Math.min.name ∈ lw_tbl) (hw : Cond.static Lib.Math.min.name ∈ lw_tbl ∧ Cond.initialized "java/lang/Math" ∈ lw_tbl ∧ Cond.code Lib.Math.min.name Lib.Math.min.code 2 (some .int) ∈ lw_tbl) (hst : 2 * st.length ≤ 8) (hR : 1 ≤ R.frames ∧ 36 ≤ R.locals) (hc : kc ≤ R.cells ∧ ks ≤ R.slots) (hx : sv_in x) (hy : sv_in y) (hd : decode M.2.1 pc = .ok (.invokestatic idx, 3))
    (kk : sv_T X R M Z kc ks (pc + 3) ls (sv_i (min x y) :: st) S f r g) : sv_T X R M Z kc ks pc ls (sv_i y :: sv_i x :: st) S f r g := by
  intro p l e s m args below meth c H locs la hF hP hS hH
  have hwt := hF.2.2.2.2.2.2.2.1.1
  have hkk := kk p l e s m args below meth c H locs la hF hP hS hH
  have hcat := sv_sum (b := X.1) hst
  refine va_mmin hF.1 hF.2.1 (by rw [hF.2.2.2.1]; exact hH.1.symm) hF.2.2.2.2.1 (hwt.use hl rfl) (hwt.use hw.1 rfl) (hwt.use hw.2.1 rfl) (hwt.use hw.2.2 rfl) hR.1 (by omega) hc.1 hc.2 hd ?_
  have e : (if Int32.ofInt y < Int32.ofInt x then Int32.ofInt y else Int32.ofInt x) = Int32.ofInt (min x y) := by
    by_cases h : y < x
    · rw [if_pos ((sv_ltI hy hx).mpr h), show min x y = y by omega]
    · rw [if_neg (fun q => h ((sv_ltI hy hx).mp q)), show min x y = x by omega]
  rw [e]
  exact hkk
theorem sv_callI {M' : sv_M} {idx d mc ms i n : Nat} {As rest : List sv_V} {Q : sv_Q} (hl : sv_cI M.1.cls idx M' n) (hM : sv_C X d M' mc ms (sv_r i :: As) S f r g Q) (hR : d + 1 ≤ R.frames ∧ 8 + (M'.2.2.1 + 11) + 36 * d ≤ R.locals) (hc : kc + mc ≤ R.cells ∧ ks + ms ≤ R.slots) (hn : As.length = n) (hst : 2 * rest.length ≤ 8) (hd : decode M.2.1 pc = .ok (.invokespecial idx, 3))
    (kk : ∀ (rv : Option sv_V) (S' : sv_S) (f' : sv_F) (r' : sv_R) (g' : sv_G), Q rv S' f' r' g' → sv_T X R M Z (kc + mc) (ks + ms) (pc + 3) ls (rv.toList ++ rest) S' f' r' g') : sv_T X R M Z kc ks pc ls (As.reverse ++ sv_r i :: rest) S f r g := by
  intro p l e s m args below meth c H locs la hF hP hS hH
  have hKK := hF.2.2.2.2.2.2.2.1
  have hz := hF.2.2.2.2.2.2.2.2
  obtain ⟨⟨h1, h2, h3, h4, h5⟩, h6, h7, h8⟩ := hl
  have hwt := hKK.1
  have hcat := sv_roomy (m := m) (pc := pc) (la := la) (b := X.1) hst
  have go : va_Run p l e R s m args below meth c H locs kc ks mc ms (F0 m pc la ((As.reverse ++ sv_r i :: rest).map (sv_cv X.1))) (rest.map (sv_cv X.1)) (sv_Qc X Q (Value.ref (X.1 + i) :: As.map (sv_cv X.1)).toArray) (fun q => X.1 ≤ q) := by
    have hpv : PreS s H (va_Pc ((sv_r i :: As).map (sv_cv X.1)) (sv_Pc X S f r g)) (.ref (X.1 + i) :: As.map (sv_cv X.1)) := ⟨sv_blind, fun U hU hW => sv_pc hKK hz hS hP U hU hW⟩
    have hnp : ∀ sig, parseMethodDescriptor M'.1.desc = some sig → n = sig.parameters.length := fun sig hs => by
      rw [hs] at h4
      exact (Option.some.inj h4).symm
    have hstk : (F0 m pc la ((As.reverse ++ sv_r i :: rest).map (sv_cv X.1))).stack = (As.map (sv_cv X.1)).reverse ++ .ref (X.1 + i) :: rest.map (sv_cv X.1) := by
      show (As.reverse ++ sv_r i :: rest).map (sv_cv X.1) = _
      rw [List.map_append, List.map_reverse]
      rfl
    have hM' := hM l
    rw [h8] at hM' h1
    rcases h5 with h5 | ⟨host, h5⟩
    · exact va_runI (Ts := []) ⟨hF.1, hF.2.1, hF.2.2.2.1, hF.2.2.2.2.1, fun _ h => by cases h⟩ hM' ⟨⟨rfl, rfl, hR.1, hR.2, sv_good (M' := (M'.1, M'.2.1, M'.2.2.1, none)) hwt h1, List.mem_cons_self, hwt.use h1 rfl, hwt.use h2 rfl, h3, hnp, hwt.use h5 rfl⟩, h7, hwt.use h6 rfl⟩ hpv rfl (by rw [List.length_map]; exact hn) hH.1 hstk hcat hd hc
    · exact va_runIN (Ts := []) ⟨hF.1, hF.2.1, hF.2.2.2.1, hF.2.2.2.2.1, fun _ h => by cases h⟩ hM' ⟨⟨⟨rfl, rfl, hR.1, hR.2, sv_good (M' := (M'.1, M'.2.1, M'.2.2.1, none)) hwt h1, List.mem_cons_self⟩, hwt.use h1 rfl, hwt.use h2 rfl, h3, hnp, hwt.use h5 (by unfold sv_ok; exact Bool.or_true _)⟩, h7, hwt.use h6 rfl⟩ hpv rfl (by rw [List.length_map]; exact hn) hH.1 hstk hcat hd hc
  refine sv_goes go hS fun rv S' f' r' g' H1 locs1 hq hP1 hS1 => ?_
  have := kk rv S' f' r' g' hq p l e s m args below meth c H1 locs1 la hF hP1 hS1 hH
  rw [List.map_append] at this
  cases rv <;> exact this
theorem sv_objinit {idx i : Nat} (hl : Cond.methodLink M.1.cls idx Lib.objectInit ∈ lw_tbl) (hw : Cond.instanceMethod Lib.objectInit ∈ lw_tbl ∧ Cond.code Lib.objectInit ⟨#[0xb1]⟩ 1 none ∈ lw_tbl) (hst : 2 * st.length ≤ 8) (hR : 1 ≤ R.frames ∧ 36 ≤ R.locals) (hd : decode M.2.1 pc = .ok (.invokespecial idx, 3)) (kk : sv_T X R M Z kc ks (pc + 3) ls st S f r g) : sv_T X R M Z kc ks pc ls (sv_r i :: st) S f r g := by
  intro p l e s m args below meth c H locs la hF hP hS hH
  have hwt := hF.2.2.2.2.2.2.2.1.1
  have hkk := kk p l e s m args below meth c H locs la hF hP hS hH
  have hcat := sv_roomy (m := m) (pc := pc) (la := la) (b := X.1) hst
  exact W.objInit hF.1 hF.2.1 hF.2.2.2.2.1 (hwt.use hl rfl) (hwt.use hw.1 rfl) (hwt.use hw.2 rfl) (g := F0 m pc la ((sv_r i :: st).map (sv_cv X.1))) rfl (by rw [hF.2.2.2.1]; exact hH.1) (a := X.1 + i) (rest := st.map (sv_cv X.1)) rfl hd hR.1 (by have h9 : (F0 m pc la ((sv_r i :: st).map (sv_cv X.1))).monitorRoom = (F0 m pc la []).monitorRoom := rfl; rw [h9]; omega) hkk
end SVMORE
end
section
abbrev MX0_init : sv_M := (yX0_init, cX0_init, 1, none)
abbrev MX0_copyKept : sv_M := (yX0_copyKept, cX0_copyKept, 2, none)
abbrev MX0_makeWhole : sv_M := (yX0_makeWhole, cX0_makeWhole, 3, none)
abbrev MX0_makeDifference : sv_M := (yX0_makeDifference, cX0_makeDifference, 5, none)
abbrev MX0_weight : sv_M := (yX0_weight, cX0_weight, 1, some .int)
abbrev MX1_init : sv_M := (yX1_init, cX1_init, 2, none)
abbrev MX1_copyFrom : sv_M := (yX1_copyFrom, cX1_copyFrom, 3, none)
abbrev MX1_placeOf : sv_M := (yX1_placeOf, cX1_placeOf, 3, some .int)
abbrev MX1_baseOf : sv_M := (yX1_baseOf, cX1_baseOf, 3, some .int)
abbrev MX1_linksOf : sv_M := (yX1_linksOf, cX1_linksOf, 5, some .int)
abbrev MX1_longestChain : sv_M := (yX1_longestChain, cX1_longestChain, 3, some .int)
abbrev MX1_followersOf : sv_M := (yX1_followersOf, cX1_followersOf, 4, some .int)
abbrev MX1_wholeOnes : sv_M := (yX1_wholeOnes, cX1_wholeOnes, 1, some .int)
abbrev MX1_weight : sv_M := (yX1_weight, cX1_weight, 3, some .int)
abbrev MX1_removePlace : sv_M := (yX1_removePlace, cX1_removePlace, 4, none)
abbrev MX2_init : sv_M := (yX2_init, cX2_init, 1, none)
abbrev MX2_readAll : sv_M := (yX2_readAll, cX2_readAll, 3, none)
abbrev MX2_readPlace : sv_M := (yX2_readPlace, cX2_readPlace, 6, some .int)
abbrev MX3_init : sv_M := (yX3_init, cX3_init, 1, none)
abbrev MX3_run : sv_M := (yX3_run, cX3_run, 5, some .int)
abbrev MX3_runCommand : sv_M := (yX3_runCommand, cX3_runCommand, 2, none)
abbrev MX3_runSet : sv_M := (yX3_runSet, cX3_runSet, 3, none)
abbrev MX3_runAdd : sv_M := (yX3_runAdd, cX3_runAdd, 3, none)
abbrev MX3_runSwap : sv_M := (yX3_runSwap, cX3_runSwap, 4, none)
abbrev MX3_runFill : sv_M := (yX3_runFill, cX3_runFill, 5, none)
abbrev MX3_runTurn : sv_M := (yX3_runTurn, cX3_runTurn, 5, none)
abbrev MX3_failAt : sv_M := (yX3_failAt, cX3_failAt, 2, none)
abbrev MX3_isDigitNext : sv_M := (yX3_isDigitNext, cX3_isDigitNext, 1, some .boolean)
abbrev MX3_isLetterNext : sv_M := (yX3_isLetterNext, cX3_isLetterNext, 1, some .boolean)
abbrev MX3_isNext : sv_M := (yX3_isNext, cX3_isNext, 2, some .boolean)
abbrev MX3_skipBlanks : sv_M := (yX3_skipBlanks, cX3_skipBlanks, 1, none)
abbrev MX3_takeWord : sv_M := (yX3_takeWord, cX3_takeWord, 3, some .int)
abbrev MX3_wordAt : sv_M := (yX3_wordAt, cX3_wordAt, 2, some .int)
abbrev MX3_isSpelled : sv_M := (yX3_isSpelled, cX3_isSpelled, 4, some .boolean)
abbrev MX3_takeIndex : sv_M := (yX3_takeIndex, cX3_takeIndex, 4, some .int)
abbrev MX3_takeNumber : sv_M := (yX3_takeNumber, cX3_takeNumber, 1, some .int)
abbrev MX3_takeAmount : sv_M := (yX3_takeAmount, cX3_takeAmount, 1, some .int)
abbrev MX3_takeDigits : sv_M := (yX3_takeDigits, cX3_takeDigits, 2, some .int)
abbrev MX3_takeSemicolon : sv_M := (yX3_takeSemicolon, cX3_takeSemicolon, 1, none)
abbrev MX4_init : sv_M := (yX4_init, cX4_init, 2, none)
abbrev MX4_type : sv_M := (yX4_type, cX4_type, 2, some .int)
abbrev MX4_clear : sv_M := (yX4_clear, cX4_clear, 2, some .int)
abbrev MX4_play : sv_M := (yX4_play, cX4_play, 2, some .int)
abbrev MX4_raise : sv_M := (yX4_raise, cX4_raise, 1, some .int)
abbrev MX4_keep : sv_M := (yX4_keep, cX4_keep, 3, some .int)
abbrev MX4_load : sv_M := (yX4_load, cX4_load, 4, some .int)
abbrev MX4_drop : sv_M := (yX4_drop, cX4_drop, 4, some .int)
abbrev MX4_alter : sv_M := (yX4_alter, cX4_alter, 7, some .int)
abbrev MX4_pack : sv_M := (yX4_pack, cX4_pack, 3, some .int)
abbrev MX4_set : sv_M := (yX4_set, cX4_set, 6, some .int)
abbrev MX4_undo : sv_M := (yX4_undo, cX4_undo, 1, some .int)
abbrev MX4_value : sv_M := (yX4_value, cX4_value, 2, some .int)
abbrev MX4_kept : sv_M := (yX4_kept, cX4_kept, 4, some .int)
abbrev MX4_entry : sv_M := (yX4_entry, cX4_entry, 6, some .int)
abbrev MX4_read : sv_M := (yX4_read, cX4_read, 7, some .int)
abbrev MX4_cause : sv_M := (yX4_cause, cX4_cause, 4, some .int)
abbrev MX4_apart : sv_M := (yX4_apart, cX4_apart, 6, some .int)
abbrev MX4_fork : sv_M := (yX4_fork, cX4_fork, 6, some .int)
abbrev MX4_nearest : sv_M := (yX4_nearest, cX4_nearest, 1, some .int)
abbrev MX4_count : sv_M := (yX4_count, cX4_count, 2, some .int)
abbrev MX4_digest : sv_M := (yX4_digest, cX4_digest, 4, some .long)
abbrev MX4_remember : sv_M := (yX4_remember, cX4_remember, 3, none)
abbrev MX4_baseForGame : sv_M := (yX4_baseForGame, cX4_baseForGame, 2, some .int)
abbrev MX4_canBeBase : sv_M := (yX4_canBeBase, cX4_canBeBase, 4, some .boolean)
abbrev MX4_mendFollowers : sv_M := (yX4_mendFollowers, cX4_mendFollowers, 4, none)
abbrev MX4_packPlace : sv_M := (yX4_packPlace, cX4_packPlace, 8, none)
abbrev MX4_propertyOf : sv_M := (yX4_propertyOf, cX4_propertyOf, 4, some .int)
abbrev MX4_tally : sv_M := (yX4_tally, cX4_tally, 2, some .int)
abbrev MX4_unreadable : sv_M := (yX4_unreadable, cX4_unreadable, 3, some .int)
abbrev MX4_reasonOf : sv_M := (yX4_reasonOf, cX4_reasonOf, 3, some .int)
abbrev MX4_causeOf : sv_M := (yX4_causeOf, cX4_causeOf, 6, some .int)
abbrev MX4_nearestToGame : sv_M := (yX4_nearestToGame, cX4_nearestToGame, 6, some .int)
abbrev MX4_addPlace : sv_M := (yX4_addPlace, cX4_addPlace, 8, some .long)
abbrev MX4_distance : sv_M := (yX4_distance, cX4_distance, 6, some .int)
abbrev MX4_raiseRead : sv_M := (yX4_raiseRead, cX4_raiseRead, 4, none)
abbrev MX4_sizeOf : sv_M := (yX4_sizeOf, cX4_sizeOf, 1, some .int)
abbrev MX4_sumOf : sv_M := (yX4_sumOf, cX4_sumOf, 4, some .int)
abbrev MX4_raiseValues : sv_M := (yX4_raiseValues, cX4_raiseValues, 4, none)
abbrev MX5_init : sv_M := (yX5_init, cX5_init, 1, none)
abbrev MX5_in : sv_M := (yX5_in, cX5_in, 3, some .boolean)
abbrev MX5_valuesOf : sv_M := (yX5_valuesOf, cX5_valuesOf, 1, some .int)
abbrev MX5_of : sv_M := (yX5_of, cX5_of, 3, some .int)
abbrev MX5_put : sv_M := (yX5_put, cX5_put, 4, none)
abbrev MX5_isWhole : sv_M := (yX5_isWhole, cX5_isWhole, 2, some .boolean)
abbrev MX5_keeps : sv_M := (yX5_keeps, cX5_keeps, 2, none)
abbrev MX5_undo : sv_M := (yX5_undo, cX5_undo, 2, some .int)
abbrev MX5_slotOf : sv_M := (yX5_slotOf, cX5_slotOf, 3, some .int)
abbrev MX5_raises : sv_M := (yX5_raises, cX5_raises, 2, none)
abbrev MX5_raisesTo : sv_M := (yX5_raisesTo, cX5_raisesTo, 2, none)
abbrev MX5_sumNow : sv_M := (yX5_sumNow, cX5_sumNow, 3, some .int)
abbrev MX5_takesGame : sv_M := (yX5_takesGame, cX5_takesGame, 2, none)
abbrev MX5_givesGame : sv_M := (yX5_givesGame, cX5_givesGame, 2, none)
abbrev MX5_climbs : sv_M := (yX5_climbs, cX5_climbs, 4, none)
abbrev MX5_reads : sv_M := (yX5_reads, cX5_reads, 5, some .boolean)
abbrev MX5_linksOf : sv_M := (yX5_linksOf, cX5_linksOf, 2, some .int)
abbrev MX5_setsAside : sv_M := (yX5_setsAside, cX5_setsAside, 2, none)
abbrev MX5_differences : sv_M := (yX5_differences, cX5_differences, 4, some .int)
abbrev MX5_writesWhole : sv_M := (yX5_writesWhole, cX5_writesWhole, 4, none)
abbrev MX5_writesDifference : sv_M := (yX5_writesDifference, cX5_writesDifference, 5, none)
abbrev MX5_type : sv_M := (yX5_type, cX5_type, 2, some .int)
abbrev MX5_clear : sv_M := (yX5_clear, cX5_clear, 2, some .int)
abbrev MX5_next : sv_M := (yX5_next, cX5_next, 1, some .int)
abbrev MX5_isDigit : sv_M := (yX5_isDigit, cX5_isDigit, 1, some .boolean)
abbrev MX5_skips : sv_M := (yX5_skips, cX5_skips, 1, none)
abbrev MX5_fails : sv_M := (yX5_fails, cX5_fails, 2, none)
abbrev MX5_number : sv_M := (yX5_number, cX5_number, 5, some .int)
abbrev MX5_amount : sv_M := (yX5_amount, cX5_amount, 3, some .int)
abbrev MX5_isWord : sv_M := (yX5_isWord, cX5_isWord, 6, some .boolean)
abbrev MX5_wordOf : sv_M := (yX5_wordOf, cX5_wordOf, 2, some .int)
abbrev MX5_readsCommand : sv_M := (yX5_readsCommand, cX5_readsCommand, 5, none)
abbrev MX5_readsScript : sv_M := (yX5_readsScript, cX5_readsScript, 1, none)
abbrev MX5_turns : sv_M := (yX5_turns, cX5_turns, 5, none)
abbrev MX5_does : sv_M := (yX5_does, cX5_does, 5, none)
abbrev MX5_play : sv_M := (yX5_play, cX5_play, 2, some .int)
abbrev MX5_raise : sv_M := (yX5_raise, cX5_raise, 1, some .int)
abbrev MX5_isNear : sv_M := (yX5_isNear, cX5_isNear, 1, some .boolean)
abbrev MX5_keep : sv_M := (yX5_keep, cX5_keep, 4, some .int)
abbrev MX5_load : sv_M := (yX5_load, cX5_load, 2, some .int)
abbrev MX5_basedOn : sv_M := (yX5_basedOn, cX5_basedOn, 4, some .int)
abbrev MX5_drop : sv_M := (yX5_drop, cX5_drop, 5, some .int)
abbrev MX5_alter : sv_M := (yX5_alter, cX5_alter, 6, some .int)
abbrev MX5_weight : sv_M := (yX5_weight, cX5_weight, 2, some .int)
abbrev MX5_weights : sv_M := (yX5_weights, cX5_weights, 3, some .int)
abbrev MX5_nearestBase : sv_M := (yX5_nearestBase, cX5_nearestBase, 6, some .int)
abbrev MX5_pack : sv_M := (yX5_pack, cX5_pack, 4, some .int)
abbrev MX5_set : sv_M := (yX5_set, cX5_set, 4, some .int)
abbrev MX5_value : sv_M := (yX5_value, cX5_value, 2, some .int)
abbrev MX5_part : sv_M := (yX5_part, cX5_part, 3, some .int)
abbrev MX5_kept : sv_M := (yX5_kept, cX5_kept, 4, some .int)
abbrev MX5_entry : sv_M := (yX5_entry, cX5_entry, 5, some .int)
abbrev MX5_read : sv_M := (yX5_read, cX5_read, 5, some .int)
abbrev MX5_cause : sv_M := (yX5_cause, cX5_cause, 6, some .int)
abbrev MX5_apart : sv_M := (yX5_apart, cX5_apart, 6, some .int)
abbrev MX5_isInChain : sv_M := (yX5_isInChain, cX5_isInChain, 4, some .boolean)
abbrev MX5_fork : sv_M := (yX5_fork, cX5_fork, 5, some .int)
abbrev MX5_nearest : sv_M := (yX5_nearest, cX5_nearest, 6, some .int)
abbrev MX5_counts : sv_M := (yX5_counts, cX5_counts, 4, some .int)
abbrev MX5_longest : sv_M := (yX5_longest, cX5_longest, 4, some .int)
abbrev MX5_count : sv_M := (yX5_count, cX5_count, 2, some .int)
abbrev MX5_mixes : sv_M := (yX5_mixes, cX5_mixes, 3, none)
abbrev MX5_mixesKept : sv_M := (yX5_mixesKept, cX5_mixesKept, 3, none)
abbrev MX5_digest : sv_M := (yX5_digest, cX5_digest, 2, some .long)
theorem flX0_9 : sv_fl RX0 9 0 0 false := ⟨_, sv_cb0, by decide, rfl, rfl, Or.inl (List.mem_of_getElem? (i := 123) (by decide +kernel))⟩
theorem flX1_48 : sv_fl RX1 48 0 0 false := ⟨_, sv_cb0, by decide, rfl, rfl, Or.inr ⟨"StateVault", List.mem_of_getElem? (i := 124) (by decide +kernel)⟩⟩
theorem flX4_93 : sv_fl RX4 93 0 0 false := ⟨_, sv_cb0, by decide, rfl, rfl, Or.inr ⟨"StateVault", List.mem_of_getElem? (i := 125) (by decide +kernel)⟩⟩
theorem flX0_15 : sv_fl RX0 15 0 1 false := ⟨_, sv_cb0, by decide, rfl, rfl, Or.inl (List.mem_of_getElem? (i := 126) (by decide +kernel))⟩
theorem flX2_49 : sv_fl RX2 49 0 1 false := ⟨_, sv_cb0, by decide, rfl, rfl, Or.inr ⟨"StateVault", List.mem_of_getElem? (i := 127) (by decide +kernel)⟩⟩
theorem flX4_98 : sv_fl RX4 98 0 1 false := ⟨_, sv_cb0, by decide, rfl, rfl, Or.inr ⟨"StateVault", List.mem_of_getElem? (i := 128) (by decide +kernel)⟩⟩
theorem flX0_18 : sv_fl RX0 18 0 2 false := ⟨_, sv_cb0, by decide, rfl, rfl, Or.inl (List.mem_of_getElem? (i := 129) (by decide +kernel))⟩
theorem flX2_67 : sv_fl RX2 67 0 2 false := ⟨_, sv_cb0, by decide, rfl, rfl, Or.inr ⟨"StateVault", List.mem_of_getElem? (i := 130) (by decide +kernel)⟩⟩
theorem flX4_102 : sv_fl RX4 102 0 2 false := ⟨_, sv_cb0, by decide, rfl, rfl, Or.inr ⟨"StateVault", List.mem_of_getElem? (i := 131) (by decide +kernel)⟩⟩
theorem flX0_21 : sv_fl RX0 21 0 3 false := ⟨_, sv_cb0, by decide, rfl, rfl, Or.inl (List.mem_of_getElem? (i := 132) (by decide +kernel))⟩
theorem flX2_34 : sv_fl RX2 34 0 3 false := ⟨_, sv_cb0, by decide, rfl, rfl, Or.inr ⟨"StateVault", List.mem_of_getElem? (i := 133) (by decide +kernel)⟩⟩
theorem flX1_55 : sv_fl RX1 55 0 3 false := ⟨_, sv_cb0, by decide, rfl, rfl, Or.inr ⟨"StateVault", List.mem_of_getElem? (i := 134) (by decide +kernel)⟩⟩
theorem flX4_198 : sv_fl RX4 198 0 3 false := ⟨_, sv_cb0, by decide, rfl, rfl, Or.inr ⟨"StateVault", List.mem_of_getElem? (i := 135) (by decide +kernel)⟩⟩
theorem flX0_24 : sv_fl RX0 24 0 4 false := ⟨_, sv_cb0, by decide, rfl, rfl, Or.inl (List.mem_of_getElem? (i := 136) (by decide +kernel))⟩
theorem flX2_56 : sv_fl RX2 56 0 4 false := ⟨_, sv_cb0, by decide, rfl, rfl, Or.inr ⟨"StateVault", List.mem_of_getElem? (i := 137) (by decide +kernel)⟩⟩
theorem flX4_149 : sv_fl RX4 149 0 4 false := ⟨_, sv_cb0, by decide, rfl, rfl, Or.inr ⟨"StateVault", List.mem_of_getElem? (i := 138) (by decide +kernel)⟩⟩
theorem flX0_27 : sv_fl RX0 27 0 5 true := ⟨_, sv_cb0, by decide, rfl, rfl, Or.inl (List.mem_of_getElem? (i := 139) (by decide +kernel))⟩
theorem flX2_57 : sv_fl RX2 57 0 5 true := ⟨_, sv_cb0, by decide, rfl, rfl, Or.inr ⟨"StateVault", List.mem_of_getElem? (i := 140) (by decide +kernel)⟩⟩
theorem flX4_163 : sv_fl RX4 163 0 5 true := ⟨_, sv_cb0, by decide, rfl, rfl, Or.inr ⟨"StateVault", List.mem_of_getElem? (i := 141) (by decide +kernel)⟩⟩
theorem flX0_31 : sv_fl RX0 31 0 6 true := ⟨_, sv_cb0, by decide, rfl, rfl, Or.inl (List.mem_of_getElem? (i := 142) (by decide +kernel))⟩
theorem flX2_60 : sv_fl RX2 60 0 6 true := ⟨_, sv_cb0, by decide, rfl, rfl, Or.inr ⟨"StateVault", List.mem_of_getElem? (i := 143) (by decide +kernel)⟩⟩
theorem flX4_150 : sv_fl RX4 150 0 6 true := ⟨_, sv_cb0, by decide, rfl, rfl, Or.inr ⟨"StateVault", List.mem_of_getElem? (i := 144) (by decide +kernel)⟩⟩
theorem flX1_9 : sv_fl RX1 9 1 0 false := ⟨_, sv_cb1, by decide, rfl, rfl, Or.inl (List.mem_of_getElem? (i := 161) (by decide +kernel))⟩
theorem flX4_54 : sv_fl RX4 54 1 0 false := ⟨_, sv_cb1, by decide, rfl, rfl, Or.inr ⟨"StateVault", List.mem_of_getElem? (i := 162) (by decide +kernel)⟩⟩
theorem flX1_15 : sv_fl RX1 15 1 1 false := ⟨_, sv_cb1, by decide, rfl, rfl, Or.inl (List.mem_of_getElem? (i := 163) (by decide +kernel))⟩
theorem flX4_117 : sv_fl RX4 117 1 1 false := ⟨_, sv_cb1, by decide, rfl, rfl, Or.inr ⟨"StateVault", List.mem_of_getElem? (i := 164) (by decide +kernel)⟩⟩
theorem flX1_18 : sv_fl RX1 18 1 2 false := ⟨_, sv_cb1, by decide, rfl, rfl, Or.inl (List.mem_of_getElem? (i := 165) (by decide +kernel))⟩
theorem flX4_82 : sv_fl RX4 82 1 2 false := ⟨_, sv_cb1, by decide, rfl, rfl, Or.inr ⟨"StateVault", List.mem_of_getElem? (i := 166) (by decide +kernel)⟩⟩
theorem flX1_21 : sv_fl RX1 21 1 3 false := ⟨_, sv_cb1, by decide, rfl, rfl, Or.inl (List.mem_of_getElem? (i := 167) (by decide +kernel))⟩
theorem flX2_20 : sv_fl RX2 20 1 3 false := ⟨_, sv_cb1, by decide, rfl, rfl, Or.inr ⟨"StateVault", List.mem_of_getElem? (i := 168) (by decide +kernel)⟩⟩
theorem flX4_79 : sv_fl RX4 79 1 3 false := ⟨_, sv_cb1, by decide, rfl, rfl, Or.inr ⟨"StateVault", List.mem_of_getElem? (i := 169) (by decide +kernel)⟩⟩
theorem flX1_24 : sv_fl RX1 24 1 4 true := ⟨_, sv_cb1, by decide, rfl, rfl, Or.inl (List.mem_of_getElem? (i := 170) (by decide +kernel))⟩
theorem flX4_51 : sv_fl RX4 51 1 4 true := ⟨_, sv_cb1, by decide, rfl, rfl, Or.inr ⟨"StateVault", List.mem_of_getElem? (i := 171) (by decide +kernel)⟩⟩
theorem flX1_28 : sv_fl RX1 28 1 5 true := ⟨_, sv_cb1, by decide, rfl, rfl, Or.inl (List.mem_of_getElem? (i := 172) (by decide +kernel))⟩
theorem flX4_130 : sv_fl RX4 130 1 5 true := ⟨_, sv_cb1, by decide, rfl, rfl, Or.inr ⟨"StateVault", List.mem_of_getElem? (i := 173) (by decide +kernel)⟩⟩
theorem flX1_33 : sv_fl RX1 33 1 6 true := ⟨_, sv_cb1, by decide, rfl, rfl, Or.inl (List.mem_of_getElem? (i := 174) (by decide +kernel))⟩
theorem flX2_30 : sv_fl RX2 30 1 6 true := ⟨_, sv_cb1, by decide, rfl, rfl, Or.inr ⟨"StateVault", List.mem_of_getElem? (i := 175) (by decide +kernel)⟩⟩
theorem flX4_89 : sv_fl RX4 89 1 6 true := ⟨_, sv_cb1, by decide, rfl, rfl, Or.inr ⟨"StateVault", List.mem_of_getElem? (i := 176) (by decide +kernel)⟩⟩
theorem flX3_9 : sv_fl RX3 9 3 0 true := ⟨_, sv_cb3, by decide, rfl, rfl, Or.inl (List.mem_of_getElem? (i := 199) (by decide +kernel))⟩
theorem flX4_48 : sv_fl RX4 48 3 0 true := ⟨_, sv_cb3, by decide, rfl, rfl, Or.inr ⟨"StateVault", List.mem_of_getElem? (i := 200) (by decide +kernel)⟩⟩
theorem flX3_15 : sv_fl RX3 15 3 1 false := ⟨_, sv_cb3, by decide, rfl, rfl, Or.inl (List.mem_of_getElem? (i := 201) (by decide +kernel))⟩
theorem flX4_45 : sv_fl RX4 45 3 1 false := ⟨_, sv_cb3, by decide, rfl, rfl, Or.inr ⟨"StateVault", List.mem_of_getElem? (i := 202) (by decide +kernel)⟩⟩
theorem flX3_19 : sv_fl RX3 19 3 2 true := ⟨_, sv_cb3, by decide, rfl, rfl, Or.inl (List.mem_of_getElem? (i := 203) (by decide +kernel))⟩
theorem flX4_68 : sv_fl RX4 68 3 2 true := ⟨_, sv_cb3, by decide, rfl, rfl, Or.inr ⟨"StateVault", List.mem_of_getElem? (i := 204) (by decide +kernel)⟩⟩
theorem flX3_22 : sv_fl RX3 22 3 3 false := ⟨_, sv_cb3, by decide, rfl, rfl, Or.inl (List.mem_of_getElem? (i := 205) (by decide +kernel))⟩
theorem flX3_25 : sv_fl RX3 25 3 4 false := ⟨_, sv_cb3, by decide, rfl, rfl, Or.inl (List.mem_of_getElem? (i := 206) (by decide +kernel))⟩
theorem flX3_28 : sv_fl RX3 28 3 5 false := ⟨_, sv_cb3, by decide, rfl, rfl, Or.inl (List.mem_of_getElem? (i := 207) (by decide +kernel))⟩
theorem flX2_11 : sv_fl RX2 11 2 0 true := ⟨_, sv_cb2, by decide, rfl, rfl, Or.inl (List.mem_of_getElem? (i := 229) (by decide +kernel))⟩
theorem flX4_201 : sv_fl RX4 201 2 0 true := ⟨_, sv_cb2, by decide, rfl, rfl, Or.inr ⟨"StateVault", List.mem_of_getElem? (i := 230) (by decide +kernel)⟩⟩
theorem flX2_16 : sv_fl RX2 16 2 1 true := ⟨_, sv_cb2, by decide, rfl, rfl, Or.inl (List.mem_of_getElem? (i := 231) (by decide +kernel))⟩
theorem flX4_127 : sv_fl RX4 127 2 1 true := ⟨_, sv_cb2, by decide, rfl, rfl, Or.inr ⟨"StateVault", List.mem_of_getElem? (i := 232) (by decide +kernel)⟩⟩
theorem flX4_10 : sv_fl RX4 10 4 0 true := ⟨_, sv_cb4, by decide, rfl, rfl, Or.inl (List.mem_of_getElem? (i := 238) (by decide +kernel))⟩
theorem flX4_16 : sv_fl RX4 16 4 1 true := ⟨_, sv_cb4, by decide, rfl, rfl, Or.inl (List.mem_of_getElem? (i := 239) (by decide +kernel))⟩
theorem flX4_20 : sv_fl RX4 20 4 2 false := ⟨_, sv_cb4, by decide, rfl, rfl, Or.inl (List.mem_of_getElem? (i := 240) (by decide +kernel))⟩
theorem flX4_27 : sv_fl RX4 27 4 3 true := ⟨_, sv_cb4, by decide, rfl, rfl, Or.inl (List.mem_of_getElem? (i := 241) (by decide +kernel))⟩
theorem flX4_34 : sv_fl RX4 34 4 4 true := ⟨_, sv_cb4, by decide, rfl, rfl, Or.inl (List.mem_of_getElem? (i := 242) (by decide +kernel))⟩
theorem flX4_38 : sv_fl RX4 38 4 5 true := ⟨_, sv_cb4, by decide, rfl, rfl, Or.inl (List.mem_of_getElem? (i := 243) (by decide +kernel))⟩
theorem flX4_42 : sv_fl RX4 42 4 6 true := ⟨_, sv_cb4, by decide, rfl, rfl, Or.inl (List.mem_of_getElem? (i := 244) (by decide +kernel))⟩
theorem flX5_7 : sv_fl RX5 7 5 0 true := ⟨_, sv_cb5, by decide, rfl, rfl, Or.inl (List.mem_of_getElem? (i := 636) (by decide +kernel))⟩
theorem flX5_13 : sv_fl RX5 13 5 1 true := ⟨_, sv_cb5, by decide, rfl, rfl, Or.inl (List.mem_of_getElem? (i := 637) (by decide +kernel))⟩
theorem flX5_42 : sv_fl RX5 42 5 2 false := ⟨_, sv_cb5, by decide, rfl, rfl, Or.inl (List.mem_of_getElem? (i := 638) (by decide +kernel))⟩
theorem flX5_16 : sv_fl RX5 16 5 3 true := ⟨_, sv_cb5, by decide, rfl, rfl, Or.inl (List.mem_of_getElem? (i := 639) (by decide +kernel))⟩
theorem flX5_46 : sv_fl RX5 46 5 4 false := ⟨_, sv_cb5, by decide, rfl, rfl, Or.inl (List.mem_of_getElem? (i := 640) (by decide +kernel))⟩
theorem flX5_19 : sv_fl RX5 19 5 5 true := ⟨_, sv_cb5, by decide, rfl, rfl, Or.inl (List.mem_of_getElem? (i := 641) (by decide +kernel))⟩
theorem flX5_22 : sv_fl RX5 22 5 6 true := ⟨_, sv_cb5, by decide, rfl, rfl, Or.inl (List.mem_of_getElem? (i := 642) (by decide +kernel))⟩
theorem flX5_56 : sv_fl RX5 56 5 7 false := ⟨_, sv_cb5, by decide, rfl, rfl, Or.inl (List.mem_of_getElem? (i := 643) (by decide +kernel))⟩
theorem flX5_25 : sv_fl RX5 25 5 8 true := ⟨_, sv_cb5, by decide, rfl, rfl, Or.inl (List.mem_of_getElem? (i := 644) (by decide +kernel))⟩
theorem flX5_28 : sv_fl RX5 28 5 9 true := ⟨_, sv_cb5, by decide, rfl, rfl, Or.inl (List.mem_of_getElem? (i := 645) (by decide +kernel))⟩
theorem flX5_85 : sv_fl RX5 85 5 10 false := ⟨_, sv_cb5, by decide, rfl, rfl, Or.inl (List.mem_of_getElem? (i := 646) (by decide +kernel))⟩
theorem flX5_88 : sv_fl RX5 88 5 11 false := ⟨_, sv_cb5, by decide, rfl, rfl, Or.inl (List.mem_of_getElem? (i := 647) (by decide +kernel))⟩
theorem flX5_94 : sv_fl RX5 94 5 12 false := ⟨_, sv_cb5, by decide, rfl, rfl, Or.inl (List.mem_of_getElem? (i := 648) (by decide +kernel))⟩
theorem flX5_31 : sv_fl RX5 31 5 13 true := ⟨_, sv_cb5, by decide, rfl, rfl, Or.inl (List.mem_of_getElem? (i := 649) (by decide +kernel))⟩
theorem flX5_121 : sv_fl RX5 121 5 14 false := ⟨_, sv_cb5, by decide, rfl, rfl, Or.inl (List.mem_of_getElem? (i := 650) (by decide +kernel))⟩
theorem flX5_34 : sv_fl RX5 34 5 15 true := ⟨_, sv_cb5, by decide, rfl, rfl, Or.inl (List.mem_of_getElem? (i := 651) (by decide +kernel))⟩
theorem flX5_196 : sv_fl RX5 196 5 16 false := ⟨_, sv_cb5, by decide, rfl, rfl, Or.inl (List.mem_of_getElem? (i := 652) (by decide +kernel))⟩
theorem ckX0_init : Cond.code MX0_init.1 MX0_init.2.1 MX0_init.2.2.1 MX0_init.2.2.2 ∈ lw_tbl ∧ Cond.initialized MX0_init.1.cls ∈ lw_tbl ∧ (MX0_init.1.cls ≠ "java/lang/invoke/MethodHandle" ∧ MX0_init.1.cls ≠ "java/lang/invoke/VarHandle") ∧ (parseMethodDescriptor MX0_init.1.desc).map (fun d => d.parameters.length) = some 0 := ⟨List.mem_of_getElem? (i := 121) (by decide +kernel), List.mem_of_getElem? (i := 92) (by decide +kernel), ⟨by decide +kernel, by decide +kernel⟩, by decide +kernel⟩
theorem ckX0_copyKept : Cond.code MX0_copyKept.1 MX0_copyKept.2.1 MX0_copyKept.2.2.1 MX0_copyKept.2.2.2 ∈ lw_tbl ∧ Cond.initialized MX0_copyKept.1.cls ∈ lw_tbl ∧ (MX0_copyKept.1.cls ≠ "java/lang/invoke/MethodHandle" ∧ MX0_copyKept.1.cls ≠ "java/lang/invoke/VarHandle") ∧ (parseMethodDescriptor MX0_copyKept.1.desc).map (fun d => d.parameters.length) = some 1 := ⟨List.mem_of_getElem? (i := 429) (by decide +kernel), List.mem_of_getElem? (i := 92) (by decide +kernel), ⟨by decide +kernel, by decide +kernel⟩, by decide +kernel⟩
theorem ckX0_makeWhole : Cond.code MX0_makeWhole.1 MX0_makeWhole.2.1 MX0_makeWhole.2.2.1 MX0_makeWhole.2.2.2 ∈ lw_tbl ∧ Cond.initialized MX0_makeWhole.1.cls ∈ lw_tbl ∧ (MX0_makeWhole.1.cls ≠ "java/lang/invoke/MethodHandle" ∧ MX0_makeWhole.1.cls ≠ "java/lang/invoke/VarHandle") ∧ (parseMethodDescriptor MX0_makeWhole.1.desc).map (fun d => d.parameters.length) = some 1 := ⟨List.mem_of_getElem? (i := 492) (by decide +kernel), List.mem_of_getElem? (i := 92) (by decide +kernel), ⟨by decide +kernel, by decide +kernel⟩, by decide +kernel⟩
theorem ckX0_makeDifference : Cond.code MX0_makeDifference.1 MX0_makeDifference.2.1 MX0_makeDifference.2.2.1 MX0_makeDifference.2.2.2 ∈ lw_tbl ∧ Cond.initialized MX0_makeDifference.1.cls ∈ lw_tbl ∧ (MX0_makeDifference.1.cls ≠ "java/lang/invoke/MethodHandle" ∧ MX0_makeDifference.1.cls ≠ "java/lang/invoke/VarHandle") ∧ (parseMethodDescriptor MX0_makeDifference.1.desc).map (fun d => d.parameters.length) = some 3 := ⟨List.mem_of_getElem? (i := 497) (by decide +kernel), List.mem_of_getElem? (i := 92) (by decide +kernel), ⟨by decide +kernel, by decide +kernel⟩, by decide +kernel⟩
theorem ckX0_weight : Cond.code MX0_weight.1 MX0_weight.2.1 MX0_weight.2.2.1 MX0_weight.2.2.2 ∈ lw_tbl ∧ Cond.initialized MX0_weight.1.cls ∈ lw_tbl ∧ (MX0_weight.1.cls ≠ "java/lang/invoke/MethodHandle" ∧ MX0_weight.1.cls ≠ "java/lang/invoke/VarHandle") ∧ (parseMethodDescriptor MX0_weight.1.desc).map (fun d => d.parameters.length) = some 0 := ⟨List.mem_of_getElem? (i := 534) (by decide +kernel), List.mem_of_getElem? (i := 92) (by decide +kernel), ⟨by decide +kernel, by decide +kernel⟩, by decide +kernel⟩
theorem ckX1_init : Cond.code MX1_init.1 MX1_init.2.1 MX1_init.2.2.1 MX1_init.2.2.2 ∈ lw_tbl ∧ Cond.initialized MX1_init.1.cls ∈ lw_tbl ∧ (MX1_init.1.cls ≠ "java/lang/invoke/MethodHandle" ∧ MX1_init.1.cls ≠ "java/lang/invoke/VarHandle") ∧ (parseMethodDescriptor MX1_init.1.desc).map (fun d => d.parameters.length) = some 0 := ⟨List.mem_of_getElem? (i := 114) (by decide +kernel), List.mem_of_getElem? (i := 91) (by decide +kernel), ⟨by decide +kernel, by decide +kernel⟩, by decide +kernel⟩
theorem ckX1_copyFrom : Cond.code MX1_copyFrom.1 MX1_copyFrom.2.1 MX1_copyFrom.2.2.1 MX1_copyFrom.2.2.2 ∈ lw_tbl ∧ Cond.initialized MX1_copyFrom.1.cls ∈ lw_tbl ∧ (MX1_copyFrom.1.cls ≠ "java/lang/invoke/MethodHandle" ∧ MX1_copyFrom.1.cls ≠ "java/lang/invoke/VarHandle") ∧ (parseMethodDescriptor MX1_copyFrom.1.desc).map (fun d => d.parameters.length) = some 1 := ⟨List.mem_of_getElem? (i := 424) (by decide +kernel), List.mem_of_getElem? (i := 91) (by decide +kernel), ⟨by decide +kernel, by decide +kernel⟩, by decide +kernel⟩
theorem ckX1_placeOf : Cond.code MX1_placeOf.1 MX1_placeOf.2.1 MX1_placeOf.2.2.1 MX1_placeOf.2.2.2 ∈ lw_tbl ∧ Cond.initialized MX1_placeOf.1.cls ∈ lw_tbl ∧ (MX1_placeOf.1.cls ≠ "java/lang/invoke/MethodHandle" ∧ MX1_placeOf.1.cls ≠ "java/lang/invoke/VarHandle") ∧ (parseMethodDescriptor MX1_placeOf.1.desc).map (fun d => d.parameters.length) = some 1 := ⟨List.mem_of_getElem? (i := 456) (by decide +kernel), List.mem_of_getElem? (i := 91) (by decide +kernel), ⟨by decide +kernel, by decide +kernel⟩, by decide +kernel⟩
theorem ckX1_baseOf : Cond.code MX1_baseOf.1 MX1_baseOf.2.1 MX1_baseOf.2.2.1 MX1_baseOf.2.2.2 ∈ lw_tbl ∧ Cond.initialized MX1_baseOf.1.cls ∈ lw_tbl ∧ (MX1_baseOf.1.cls ≠ "java/lang/invoke/MethodHandle" ∧ MX1_baseOf.1.cls ≠ "java/lang/invoke/VarHandle") ∧ (parseMethodDescriptor MX1_baseOf.1.desc).map (fun d => d.parameters.length) = some 1 := ⟨List.mem_of_getElem? (i := 479) (by decide +kernel), List.mem_of_getElem? (i := 91) (by decide +kernel), ⟨by decide +kernel, by decide +kernel⟩, by decide +kernel⟩
theorem ckX1_linksOf : Cond.code MX1_linksOf.1 MX1_linksOf.2.1 MX1_linksOf.2.2.1 MX1_linksOf.2.2.2 ∈ lw_tbl ∧ Cond.initialized MX1_linksOf.1.cls ∈ lw_tbl ∧ (MX1_linksOf.1.cls ≠ "java/lang/invoke/MethodHandle" ∧ MX1_linksOf.1.cls ≠ "java/lang/invoke/VarHandle") ∧ (parseMethodDescriptor MX1_linksOf.1.desc).map (fun d => d.parameters.length) = some 1 := ⟨List.mem_of_getElem? (i := 475) (by decide +kernel), List.mem_of_getElem? (i := 91) (by decide +kernel), ⟨by decide +kernel, by decide +kernel⟩, by decide +kernel⟩
theorem ckX1_longestChain : Cond.code MX1_longestChain.1 MX1_longestChain.2.1 MX1_longestChain.2.2.1 MX1_longestChain.2.2.2 ∈ lw_tbl ∧ Cond.initialized MX1_longestChain.1.cls ∈ lw_tbl ∧ (MX1_longestChain.1.cls ≠ "java/lang/invoke/MethodHandle" ∧ MX1_longestChain.1.cls ≠ "java/lang/invoke/VarHandle") ∧ (parseMethodDescriptor MX1_longestChain.1.desc).map (fun d => d.parameters.length) = some 0 := ⟨List.mem_of_getElem? (i := 617) (by decide +kernel), List.mem_of_getElem? (i := 91) (by decide +kernel), ⟨by decide +kernel, by decide +kernel⟩, by decide +kernel⟩
theorem ckX1_followersOf : Cond.code MX1_followersOf.1 MX1_followersOf.2.1 MX1_followersOf.2.2.1 MX1_followersOf.2.2.2 ∈ lw_tbl ∧ Cond.initialized MX1_followersOf.1.cls ∈ lw_tbl ∧ (MX1_followersOf.1.cls ≠ "java/lang/invoke/MethodHandle" ∧ MX1_followersOf.1.cls ≠ "java/lang/invoke/VarHandle") ∧ (parseMethodDescriptor MX1_followersOf.1.desc).map (fun d => d.parameters.length) = some 1 := ⟨List.mem_of_getElem? (i := 518) (by decide +kernel), List.mem_of_getElem? (i := 91) (by decide +kernel), ⟨by decide +kernel, by decide +kernel⟩, by decide +kernel⟩
theorem ckX1_wholeOnes : Cond.code MX1_wholeOnes.1 MX1_wholeOnes.2.1 MX1_wholeOnes.2.2.1 MX1_wholeOnes.2.2.2 ∈ lw_tbl ∧ Cond.initialized MX1_wholeOnes.1.cls ∈ lw_tbl ∧ (MX1_wholeOnes.1.cls ≠ "java/lang/invoke/MethodHandle" ∧ MX1_wholeOnes.1.cls ≠ "java/lang/invoke/VarHandle") ∧ (parseMethodDescriptor MX1_wholeOnes.1.desc).map (fun d => d.parameters.length) = some 0 := ⟨List.mem_of_getElem? (i := 608) (by decide +kernel), List.mem_of_getElem? (i := 91) (by decide +kernel), ⟨by decide +kernel, by decide +kernel⟩, by decide +kernel⟩
theorem ckX1_weight : Cond.code MX1_weight.1 MX1_weight.2.1 MX1_weight.2.2.1 MX1_weight.2.2.2 ∈ lw_tbl ∧ Cond.initialized MX1_weight.1.cls ∈ lw_tbl ∧ (MX1_weight.1.cls ≠ "java/lang/invoke/MethodHandle" ∧ MX1_weight.1.cls ≠ "java/lang/invoke/VarHandle") ∧ (parseMethodDescriptor MX1_weight.1.desc).map (fun d => d.parameters.length) = some 0 := ⟨List.mem_of_getElem? (i := 530) (by decide +kernel), List.mem_of_getElem? (i := 91) (by decide +kernel), ⟨by decide +kernel, by decide +kernel⟩, by decide +kernel⟩
theorem ckX1_removePlace : Cond.code MX1_removePlace.1 MX1_removePlace.2.1 MX1_removePlace.2.2.1 MX1_removePlace.2.2.2 ∈ lw_tbl ∧ Cond.initialized MX1_removePlace.1.cls ∈ lw_tbl ∧ (MX1_removePlace.1.cls ≠ "java/lang/invoke/MethodHandle" ∧ MX1_removePlace.1.cls ≠ "java/lang/invoke/VarHandle") ∧ (parseMethodDescriptor MX1_removePlace.1.desc).map (fun d => d.parameters.length) = some 1 := ⟨List.mem_of_getElem? (i := 514) (by decide +kernel), List.mem_of_getElem? (i := 91) (by decide +kernel), ⟨by decide +kernel, by decide +kernel⟩, by decide +kernel⟩
theorem ckX2_init : Cond.code MX2_init.1 MX2_init.2.1 MX2_init.2.2.1 MX2_init.2.2.2 ∈ lw_tbl ∧ Cond.initialized MX2_init.1.cls ∈ lw_tbl ∧ (MX2_init.1.cls ≠ "java/lang/invoke/MethodHandle" ∧ MX2_init.1.cls ≠ "java/lang/invoke/VarHandle") ∧ (parseMethodDescriptor MX2_init.1.desc).map (fun d => d.parameters.length) = some 0 := ⟨List.mem_of_getElem? (i := 225) (by decide +kernel), List.mem_of_getElem? (i := 94) (by decide +kernel), ⟨by decide +kernel, by decide +kernel⟩, by decide +kernel⟩
theorem ckX2_readAll : Cond.code MX2_readAll.1 MX2_readAll.2.1 MX2_readAll.2.2.1 MX2_readAll.2.2.2 ∈ lw_tbl ∧ Cond.initialized MX2_readAll.1.cls ∈ lw_tbl ∧ (MX2_readAll.1.cls ≠ "java/lang/invoke/MethodHandle" ∧ MX2_readAll.1.cls ≠ "java/lang/invoke/VarHandle") ∧ (parseMethodDescriptor MX2_readAll.1.desc).map (fun d => d.parameters.length) = some 1 := ⟨List.mem_of_getElem? (i := 448) (by decide +kernel), List.mem_of_getElem? (i := 94) (by decide +kernel), ⟨by decide +kernel, by decide +kernel⟩, by decide +kernel⟩
theorem ckX2_readPlace : Cond.code MX2_readPlace.1 MX2_readPlace.2.1 MX2_readPlace.2.2.1 MX2_readPlace.2.2.2 ∈ lw_tbl ∧ Cond.initialized MX2_readPlace.1.cls ∈ lw_tbl ∧ (MX2_readPlace.1.cls ≠ "java/lang/invoke/MethodHandle" ∧ MX2_readPlace.1.cls ≠ "java/lang/invoke/VarHandle") ∧ (parseMethodDescriptor MX2_readPlace.1.desc).map (fun d => d.parameters.length) = some 2 := ⟨List.mem_of_getElem? (i := 452) (by decide +kernel), List.mem_of_getElem? (i := 94) (by decide +kernel), ⟨by decide +kernel, by decide +kernel⟩, by decide +kernel⟩
theorem ckX3_init : Cond.code MX3_init.1 MX3_init.2.1 MX3_init.2.2.1 MX3_init.2.2.2 ∈ lw_tbl ∧ Cond.initialized MX3_init.1.cls ∈ lw_tbl ∧ (MX3_init.1.cls ≠ "java/lang/invoke/MethodHandle" ∧ MX3_init.1.cls ≠ "java/lang/invoke/VarHandle") ∧ (parseMethodDescriptor MX3_init.1.desc).map (fun d => d.parameters.length) = some 0 := ⟨List.mem_of_getElem? (i := 197) (by decide +kernel), List.mem_of_getElem? (i := 93) (by decide +kernel), ⟨by decide +kernel, by decide +kernel⟩, by decide +kernel⟩
theorem ckX3_run : Cond.code MX3_run.1 MX3_run.2.1 MX3_run.2.2.1 MX3_run.2.2.2 ∈ lw_tbl ∧ Cond.initialized MX3_run.1.cls ∈ lw_tbl ∧ (MX3_run.1.cls ≠ "java/lang/invoke/MethodHandle" ∧ MX3_run.1.cls ≠ "java/lang/invoke/VarHandle") ∧ (parseMethodDescriptor MX3_run.1.desc).map (fun d => d.parameters.length) = some 2 := ⟨List.mem_of_getElem? (i := 278) (by decide +kernel), List.mem_of_getElem? (i := 93) (by decide +kernel), ⟨by decide +kernel, by decide +kernel⟩, by decide +kernel⟩
theorem ckX3_runCommand : Cond.code MX3_runCommand.1 MX3_runCommand.2.1 MX3_runCommand.2.2.1 MX3_runCommand.2.2.2 ∈ lw_tbl ∧ Cond.initialized MX3_runCommand.1.cls ∈ lw_tbl ∧ (MX3_runCommand.1.cls ≠ "java/lang/invoke/MethodHandle" ∧ MX3_runCommand.1.cls ≠ "java/lang/invoke/VarHandle") ∧ (parseMethodDescriptor MX3_runCommand.1.desc).map (fun d => d.parameters.length) = some 1 := ⟨List.mem_of_getElem? (i := 362) (by decide +kernel), List.mem_of_getElem? (i := 93) (by decide +kernel), ⟨by decide +kernel, by decide +kernel⟩, by decide +kernel⟩
theorem ckX3_runSet : Cond.code MX3_runSet.1 MX3_runSet.2.1 MX3_runSet.2.2.1 MX3_runSet.2.2.2 ∈ lw_tbl ∧ Cond.initialized MX3_runSet.1.cls ∈ lw_tbl ∧ (MX3_runSet.1.cls ≠ "java/lang/invoke/MethodHandle" ∧ MX3_runSet.1.cls ≠ "java/lang/invoke/VarHandle") ∧ (parseMethodDescriptor MX3_runSet.1.desc).map (fun d => d.parameters.length) = some 0 := ⟨List.mem_of_getElem? (i := 366) (by decide +kernel), List.mem_of_getElem? (i := 93) (by decide +kernel), ⟨by decide +kernel, by decide +kernel⟩, by decide +kernel⟩
theorem ckX3_runAdd : Cond.code MX3_runAdd.1 MX3_runAdd.2.1 MX3_runAdd.2.2.1 MX3_runAdd.2.2.2 ∈ lw_tbl ∧ Cond.initialized MX3_runAdd.1.cls ∈ lw_tbl ∧ (MX3_runAdd.1.cls ≠ "java/lang/invoke/MethodHandle" ∧ MX3_runAdd.1.cls ≠ "java/lang/invoke/VarHandle") ∧ (parseMethodDescriptor MX3_runAdd.1.desc).map (fun d => d.parameters.length) = some 0 := ⟨List.mem_of_getElem? (i := 394) (by decide +kernel), List.mem_of_getElem? (i := 93) (by decide +kernel), ⟨by decide +kernel, by decide +kernel⟩, by decide +kernel⟩
theorem ckX3_runSwap : Cond.code MX3_runSwap.1 MX3_runSwap.2.1 MX3_runSwap.2.2.1 MX3_runSwap.2.2.2 ∈ lw_tbl ∧ Cond.initialized MX3_runSwap.1.cls ∈ lw_tbl ∧ (MX3_runSwap.1.cls ≠ "java/lang/invoke/MethodHandle" ∧ MX3_runSwap.1.cls ≠ "java/lang/invoke/VarHandle") ∧ (parseMethodDescriptor MX3_runSwap.1.desc).map (fun d => d.parameters.length) = some 0 := ⟨List.mem_of_getElem? (i := 408) (by decide +kernel), List.mem_of_getElem? (i := 93) (by decide +kernel), ⟨by decide +kernel, by decide +kernel⟩, by decide +kernel⟩
theorem ckX3_runFill : Cond.code MX3_runFill.1 MX3_runFill.2.1 MX3_runFill.2.2.1 MX3_runFill.2.2.2 ∈ lw_tbl ∧ Cond.initialized MX3_runFill.1.cls ∈ lw_tbl ∧ (MX3_runFill.1.cls ≠ "java/lang/invoke/MethodHandle" ∧ MX3_runFill.1.cls ≠ "java/lang/invoke/VarHandle") ∧ (parseMethodDescriptor MX3_runFill.1.desc).map (fun d => d.parameters.length) = some 0 := ⟨List.mem_of_getElem? (i := 412) (by decide +kernel), List.mem_of_getElem? (i := 93) (by decide +kernel), ⟨by decide +kernel, by decide +kernel⟩, by decide +kernel⟩
theorem ckX3_runTurn : Cond.code MX3_runTurn.1 MX3_runTurn.2.1 MX3_runTurn.2.2.1 MX3_runTurn.2.2.2 ∈ lw_tbl ∧ Cond.initialized MX3_runTurn.1.cls ∈ lw_tbl ∧ (MX3_runTurn.1.cls ≠ "java/lang/invoke/MethodHandle" ∧ MX3_runTurn.1.cls ≠ "java/lang/invoke/VarHandle") ∧ (parseMethodDescriptor MX3_runTurn.1.desc).map (fun d => d.parameters.length) = some 0 := ⟨List.mem_of_getElem? (i := 416) (by decide +kernel), List.mem_of_getElem? (i := 93) (by decide +kernel), ⟨by decide +kernel, by decide +kernel⟩, by decide +kernel⟩
theorem ckX3_failAt : Cond.code MX3_failAt.1 MX3_failAt.2.1 MX3_failAt.2.2.1 MX3_failAt.2.2.2 ∈ lw_tbl ∧ Cond.initialized MX3_failAt.1.cls ∈ lw_tbl ∧ (MX3_failAt.1.cls ≠ "java/lang/invoke/MethodHandle" ∧ MX3_failAt.1.cls ≠ "java/lang/invoke/VarHandle") ∧ (parseMethodDescriptor MX3_failAt.1.desc).map (fun d => d.parameters.length) = some 1 := ⟨List.mem_of_getElem? (i := 358) (by decide +kernel), List.mem_of_getElem? (i := 93) (by decide +kernel), ⟨by decide +kernel, by decide +kernel⟩, by decide +kernel⟩
theorem ckX3_isDigitNext : Cond.code MX3_isDigitNext.1 MX3_isDigitNext.2.1 MX3_isDigitNext.2.2.1 MX3_isDigitNext.2.2.2 ∈ lw_tbl ∧ Cond.initialized MX3_isDigitNext.1.cls ∈ lw_tbl ∧ (MX3_isDigitNext.1.cls ≠ "java/lang/invoke/MethodHandle" ∧ MX3_isDigitNext.1.cls ≠ "java/lang/invoke/VarHandle") ∧ (parseMethodDescriptor MX3_isDigitNext.1.desc).map (fun d => d.parameters.length) = some 0 := ⟨List.mem_of_getElem? (i := 378) (by decide +kernel), List.mem_of_getElem? (i := 93) (by decide +kernel), ⟨by decide +kernel, by decide +kernel⟩, by decide +kernel⟩
theorem ckX3_isLetterNext : Cond.code MX3_isLetterNext.1 MX3_isLetterNext.2.1 MX3_isLetterNext.2.2.1 MX3_isLetterNext.2.2.2 ∈ lw_tbl ∧ Cond.initialized MX3_isLetterNext.1.cls ∈ lw_tbl ∧ (MX3_isLetterNext.1.cls ≠ "java/lang/invoke/MethodHandle" ∧ MX3_isLetterNext.1.cls ≠ "java/lang/invoke/VarHandle") ∧ (parseMethodDescriptor MX3_isLetterNext.1.desc).map (fun d => d.parameters.length) = some 0 := ⟨List.mem_of_getElem? (i := 293) (by decide +kernel), List.mem_of_getElem? (i := 93) (by decide +kernel), ⟨by decide +kernel, by decide +kernel⟩, by decide +kernel⟩
theorem ckX3_isNext : Cond.code MX3_isNext.1 MX3_isNext.2.1 MX3_isNext.2.2.1 MX3_isNext.2.2.2 ∈ lw_tbl ∧ Cond.initialized MX3_isNext.1.cls ∈ lw_tbl ∧ (MX3_isNext.1.cls ≠ "java/lang/invoke/MethodHandle" ∧ MX3_isNext.1.cls ≠ "java/lang/invoke/VarHandle") ∧ (parseMethodDescriptor MX3_isNext.1.desc).map (fun d => d.parameters.length) = some 1 := ⟨List.mem_of_getElem? (i := 390) (by decide +kernel), List.mem_of_getElem? (i := 93) (by decide +kernel), ⟨by decide +kernel, by decide +kernel⟩, by decide +kernel⟩
theorem ckX3_skipBlanks : Cond.code MX3_skipBlanks.1 MX3_skipBlanks.2.1 MX3_skipBlanks.2.2.1 MX3_skipBlanks.2.2.2 ∈ lw_tbl ∧ Cond.initialized MX3_skipBlanks.1.cls ∈ lw_tbl ∧ (MX3_skipBlanks.1.cls ≠ "java/lang/invoke/MethodHandle" ∧ MX3_skipBlanks.1.cls ≠ "java/lang/invoke/VarHandle") ∧ (parseMethodDescriptor MX3_skipBlanks.1.desc).map (fun d => d.parameters.length) = some 0 := ⟨List.mem_of_getElem? (i := 285) (by decide +kernel), List.mem_of_getElem? (i := 93) (by decide +kernel), ⟨by decide +kernel, by decide +kernel⟩, by decide +kernel⟩
theorem ckX3_takeWord : Cond.code MX3_takeWord.1 MX3_takeWord.2.1 MX3_takeWord.2.2.1 MX3_takeWord.2.2.2 ∈ lw_tbl ∧ Cond.initialized MX3_takeWord.1.cls ∈ lw_tbl ∧ (MX3_takeWord.1.cls ≠ "java/lang/invoke/MethodHandle" ∧ MX3_takeWord.1.cls ≠ "java/lang/invoke/VarHandle") ∧ (parseMethodDescriptor MX3_takeWord.1.desc).map (fun d => d.parameters.length) = some 0 := ⟨List.mem_of_getElem? (i := 289) (by decide +kernel), List.mem_of_getElem? (i := 93) (by decide +kernel), ⟨by decide +kernel, by decide +kernel⟩, by decide +kernel⟩
theorem ckX3_wordAt : Cond.code MX3_wordAt.1 MX3_wordAt.2.1 MX3_wordAt.2.2.1 MX3_wordAt.2.2.2 ∈ lw_tbl ∧ Cond.initialized MX3_wordAt.1.cls ∈ lw_tbl ∧ (MX3_wordAt.1.cls ≠ "java/lang/invoke/MethodHandle" ∧ MX3_wordAt.1.cls ≠ "java/lang/invoke/VarHandle") ∧ (parseMethodDescriptor MX3_wordAt.1.desc).map (fun d => d.parameters.length) = some 1 := ⟨List.mem_of_getElem? (i := 297) (by decide +kernel), List.mem_of_getElem? (i := 93) (by decide +kernel), ⟨by decide +kernel, by decide +kernel⟩, by decide +kernel⟩
theorem ckX3_isSpelled : Cond.code MX3_isSpelled.1 MX3_isSpelled.2.1 MX3_isSpelled.2.2.1 MX3_isSpelled.2.2.2 ∈ lw_tbl ∧ Cond.initialized MX3_isSpelled.1.cls ∈ lw_tbl ∧ (MX3_isSpelled.1.cls ≠ "java/lang/invoke/MethodHandle" ∧ MX3_isSpelled.1.cls ≠ "java/lang/invoke/VarHandle") ∧ (parseMethodDescriptor MX3_isSpelled.1.desc).map (fun d => d.parameters.length) = some 2 := ⟨List.mem_of_getElem? (i := 302) (by decide +kernel), List.mem_of_getElem? (i := 93) (by decide +kernel), ⟨by decide +kernel, by decide +kernel⟩, by decide +kernel⟩
theorem ckX3_takeIndex : Cond.code MX3_takeIndex.1 MX3_takeIndex.2.1 MX3_takeIndex.2.2.1 MX3_takeIndex.2.2.2 ∈ lw_tbl ∧ Cond.initialized MX3_takeIndex.1.cls ∈ lw_tbl ∧ (MX3_takeIndex.1.cls ≠ "java/lang/invoke/MethodHandle" ∧ MX3_takeIndex.1.cls ≠ "java/lang/invoke/VarHandle") ∧ (parseMethodDescriptor MX3_takeIndex.1.desc).map (fun d => d.parameters.length) = some 1 := ⟨List.mem_of_getElem? (i := 370) (by decide +kernel), List.mem_of_getElem? (i := 93) (by decide +kernel), ⟨by decide +kernel, by decide +kernel⟩, by decide +kernel⟩
theorem ckX3_takeNumber : Cond.code MX3_takeNumber.1 MX3_takeNumber.2.1 MX3_takeNumber.2.2.1 MX3_takeNumber.2.2.2 ∈ lw_tbl ∧ Cond.initialized MX3_takeNumber.1.cls ∈ lw_tbl ∧ (MX3_takeNumber.1.cls ≠ "java/lang/invoke/MethodHandle" ∧ MX3_takeNumber.1.cls ≠ "java/lang/invoke/VarHandle") ∧ (parseMethodDescriptor MX3_takeNumber.1.desc).map (fun d => d.parameters.length) = some 0 := ⟨List.mem_of_getElem? (i := 382) (by decide +kernel), List.mem_of_getElem? (i := 93) (by decide +kernel), ⟨by decide +kernel, by decide +kernel⟩, by decide +kernel⟩
theorem ckX3_takeAmount : Cond.code MX3_takeAmount.1 MX3_takeAmount.2.1 MX3_takeAmount.2.2.1 MX3_takeAmount.2.2.2 ∈ lw_tbl ∧ Cond.initialized MX3_takeAmount.1.cls ∈ lw_tbl ∧ (MX3_takeAmount.1.cls ≠ "java/lang/invoke/MethodHandle" ∧ MX3_takeAmount.1.cls ≠ "java/lang/invoke/VarHandle") ∧ (parseMethodDescriptor MX3_takeAmount.1.desc).map (fun d => d.parameters.length) = some 0 := ⟨List.mem_of_getElem? (i := 398) (by decide +kernel), List.mem_of_getElem? (i := 93) (by decide +kernel), ⟨by decide +kernel, by decide +kernel⟩, by decide +kernel⟩
theorem ckX3_takeDigits : Cond.code MX3_takeDigits.1 MX3_takeDigits.2.1 MX3_takeDigits.2.2.1 MX3_takeDigits.2.2.2 ∈ lw_tbl ∧ Cond.initialized MX3_takeDigits.1.cls ∈ lw_tbl ∧ (MX3_takeDigits.1.cls ≠ "java/lang/invoke/MethodHandle" ∧ MX3_takeDigits.1.cls ≠ "java/lang/invoke/VarHandle") ∧ (parseMethodDescriptor MX3_takeDigits.1.desc).map (fun d => d.parameters.length) = some 0 := ⟨List.mem_of_getElem? (i := 374) (by decide +kernel), List.mem_of_getElem? (i := 93) (by decide +kernel), ⟨by decide +kernel, by decide +kernel⟩, by decide +kernel⟩
theorem ckX3_takeSemicolon : Cond.code MX3_takeSemicolon.1 MX3_takeSemicolon.2.1 MX3_takeSemicolon.2.2.1 MX3_takeSemicolon.2.2.2 ∈ lw_tbl ∧ Cond.initialized MX3_takeSemicolon.1.cls ∈ lw_tbl ∧ (MX3_takeSemicolon.1.cls ≠ "java/lang/invoke/MethodHandle" ∧ MX3_takeSemicolon.1.cls ≠ "java/lang/invoke/VarHandle") ∧ (parseMethodDescriptor MX3_takeSemicolon.1.desc).map (fun d => d.parameters.length) = some 0 := ⟨List.mem_of_getElem? (i := 386) (by decide +kernel), List.mem_of_getElem? (i := 93) (by decide +kernel), ⟨by decide +kernel, by decide +kernel⟩, by decide +kernel⟩
theorem ckX4_init : Cond.code MX4_init.1 MX4_init.2.1 MX4_init.2.2.1 MX4_init.2.2.2 ∈ lw_tbl ∧ Cond.initialized MX4_init.1.cls ∈ lw_tbl ∧ (MX4_init.1.cls ≠ "java/lang/invoke/MethodHandle" ∧ MX4_init.1.cls ≠ "java/lang/invoke/VarHandle") ∧ (parseMethodDescriptor MX4_init.1.desc).map (fun d => d.parameters.length) = some 0 := ⟨List.mem_of_getElem? (i := 106) (by decide +kernel), List.mem_of_getElem? (i := 90) (by decide +kernel), ⟨by decide +kernel, by decide +kernel⟩, by decide +kernel⟩
theorem ckX4_type : Cond.code MX4_type.1 MX4_type.2.1 MX4_type.2.2.1 MX4_type.2.2.2 ∈ lw_tbl ∧ Cond.initialized MX4_type.1.cls ∈ lw_tbl ∧ (MX4_type.1.cls ≠ "java/lang/invoke/MethodHandle" ∧ MX4_type.1.cls ≠ "java/lang/invoke/VarHandle") ∧ (parseMethodDescriptor MX4_type.1.desc).map (fun d => d.parameters.length) = some 1 := ⟨List.mem_of_getElem? (i := 263) (by decide +kernel), List.mem_of_getElem? (i := 90) (by decide +kernel), ⟨by decide +kernel, by decide +kernel⟩, by decide +kernel⟩
theorem ckX4_clear : Cond.code MX4_clear.1 MX4_clear.2.1 MX4_clear.2.2.1 MX4_clear.2.2.2 ∈ lw_tbl ∧ Cond.initialized MX4_clear.1.cls ∈ lw_tbl ∧ (MX4_clear.1.cls ≠ "java/lang/invoke/MethodHandle" ∧ MX4_clear.1.cls ≠ "java/lang/invoke/VarHandle") ∧ (parseMethodDescriptor MX4_clear.1.desc).map (fun d => d.parameters.length) = some 0 := ⟨List.mem_of_getElem? (i := 267) (by decide +kernel), List.mem_of_getElem? (i := 90) (by decide +kernel), ⟨by decide +kernel, by decide +kernel⟩, by decide +kernel⟩
theorem ckX4_play : Cond.code MX4_play.1 MX4_play.2.1 MX4_play.2.2.1 MX4_play.2.2.2 ∈ lw_tbl ∧ Cond.initialized MX4_play.1.cls ∈ lw_tbl ∧ (MX4_play.1.cls ≠ "java/lang/invoke/MethodHandle" ∧ MX4_play.1.cls ≠ "java/lang/invoke/VarHandle") ∧ (parseMethodDescriptor MX4_play.1.desc).map (fun d => d.parameters.length) = some 0 := ⟨List.mem_of_getElem? (i := 271) (by decide +kernel), List.mem_of_getElem? (i := 90) (by decide +kernel), ⟨by decide +kernel, by decide +kernel⟩, by decide +kernel⟩
theorem ckX4_raise : Cond.code MX4_raise.1 MX4_raise.2.1 MX4_raise.2.2.1 MX4_raise.2.2.2 ∈ lw_tbl ∧ Cond.initialized MX4_raise.1.cls ∈ lw_tbl ∧ (MX4_raise.1.cls ≠ "java/lang/invoke/MethodHandle" ∧ MX4_raise.1.cls ≠ "java/lang/invoke/VarHandle") ∧ (parseMethodDescriptor MX4_raise.1.desc).map (fun d => d.parameters.length) = some 0 := ⟨List.mem_of_getElem? (i := 436) (by decide +kernel), List.mem_of_getElem? (i := 90) (by decide +kernel), ⟨by decide +kernel, by decide +kernel⟩, by decide +kernel⟩
theorem ckX4_keep : Cond.code MX4_keep.1 MX4_keep.2.1 MX4_keep.2.2.1 MX4_keep.2.2.2 ∈ lw_tbl ∧ Cond.initialized MX4_keep.1.cls ∈ lw_tbl ∧ (MX4_keep.1.cls ≠ "java/lang/invoke/MethodHandle" ∧ MX4_keep.1.cls ≠ "java/lang/invoke/VarHandle") ∧ (parseMethodDescriptor MX4_keep.1.desc).map (fun d => d.parameters.length) = some 0 := ⟨List.mem_of_getElem? (i := 444) (by decide +kernel), List.mem_of_getElem? (i := 90) (by decide +kernel), ⟨by decide +kernel, by decide +kernel⟩, by decide +kernel⟩
theorem ckX4_load : Cond.code MX4_load.1 MX4_load.2.1 MX4_load.2.2.1 MX4_load.2.2.2 ∈ lw_tbl ∧ Cond.initialized MX4_load.1.cls ∈ lw_tbl ∧ (MX4_load.1.cls ≠ "java/lang/invoke/MethodHandle" ∧ MX4_load.1.cls ≠ "java/lang/invoke/VarHandle") ∧ (parseMethodDescriptor MX4_load.1.desc).map (fun d => d.parameters.length) = some 1 := ⟨List.mem_of_getElem? (i := 501) (by decide +kernel), List.mem_of_getElem? (i := 90) (by decide +kernel), ⟨by decide +kernel, by decide +kernel⟩, by decide +kernel⟩
theorem ckX4_drop : Cond.code MX4_drop.1 MX4_drop.2.1 MX4_drop.2.2.1 MX4_drop.2.2.2 ∈ lw_tbl ∧ Cond.initialized MX4_drop.1.cls ∈ lw_tbl ∧ (MX4_drop.1.cls ≠ "java/lang/invoke/MethodHandle" ∧ MX4_drop.1.cls ≠ "java/lang/invoke/VarHandle") ∧ (parseMethodDescriptor MX4_drop.1.desc).map (fun d => d.parameters.length) = some 2 := ⟨List.mem_of_getElem? (i := 506) (by decide +kernel), List.mem_of_getElem? (i := 90) (by decide +kernel), ⟨by decide +kernel, by decide +kernel⟩, by decide +kernel⟩
theorem ckX4_alter : Cond.code MX4_alter.1 MX4_alter.2.1 MX4_alter.2.2.1 MX4_alter.2.2.2 ∈ lw_tbl ∧ Cond.initialized MX4_alter.1.cls ∈ lw_tbl ∧ (MX4_alter.1.cls ≠ "java/lang/invoke/MethodHandle" ∧ MX4_alter.1.cls ≠ "java/lang/invoke/VarHandle") ∧ (parseMethodDescriptor MX4_alter.1.desc).map (fun d => d.parameters.length) = some 3 := ⟨List.mem_of_getElem? (i := 522) (by decide +kernel), List.mem_of_getElem? (i := 90) (by decide +kernel), ⟨by decide +kernel, by decide +kernel⟩, by decide +kernel⟩
theorem ckX4_pack : Cond.code MX4_pack.1 MX4_pack.2.1 MX4_pack.2.2.1 MX4_pack.2.2.2 ∈ lw_tbl ∧ Cond.initialized MX4_pack.1.cls ∈ lw_tbl ∧ (MX4_pack.1.cls ≠ "java/lang/invoke/MethodHandle" ∧ MX4_pack.1.cls ≠ "java/lang/invoke/VarHandle") ∧ (parseMethodDescriptor MX4_pack.1.desc).map (fun d => d.parameters.length) = some 0 := ⟨List.mem_of_getElem? (i := 526) (by decide +kernel), List.mem_of_getElem? (i := 90) (by decide +kernel), ⟨by decide +kernel, by decide +kernel⟩, by decide +kernel⟩
theorem ckX4_set : Cond.code MX4_set.1 MX4_set.2.1 MX4_set.2.2.1 MX4_set.2.2.2 ∈ lw_tbl ∧ Cond.initialized MX4_set.1.cls ∈ lw_tbl ∧ (MX4_set.1.cls ≠ "java/lang/invoke/MethodHandle" ∧ MX4_set.1.cls ≠ "java/lang/invoke/VarHandle") ∧ (parseMethodDescriptor MX4_set.1.desc).map (fun d => d.parameters.length) = some 2 := ⟨List.mem_of_getElem? (i := 542) (by decide +kernel), List.mem_of_getElem? (i := 90) (by decide +kernel), ⟨by decide +kernel, by decide +kernel⟩, by decide +kernel⟩
theorem ckX4_undo : Cond.code MX4_undo.1 MX4_undo.2.1 MX4_undo.2.2.1 MX4_undo.2.2.2 ∈ lw_tbl ∧ Cond.initialized MX4_undo.1.cls ∈ lw_tbl ∧ (MX4_undo.1.cls ≠ "java/lang/invoke/MethodHandle" ∧ MX4_undo.1.cls ≠ "java/lang/invoke/VarHandle") ∧ (parseMethodDescriptor MX4_undo.1.desc).map (fun d => d.parameters.length) = some 0 := ⟨List.mem_of_getElem? (i := 546) (by decide +kernel), List.mem_of_getElem? (i := 90) (by decide +kernel), ⟨by decide +kernel, by decide +kernel⟩, by decide +kernel⟩
theorem ckX4_value : Cond.code MX4_value.1 MX4_value.2.1 MX4_value.2.2.1 MX4_value.2.2.2 ∈ lw_tbl ∧ Cond.initialized MX4_value.1.cls ∈ lw_tbl ∧ (MX4_value.1.cls ≠ "java/lang/invoke/MethodHandle" ∧ MX4_value.1.cls ≠ "java/lang/invoke/VarHandle") ∧ (parseMethodDescriptor MX4_value.1.desc).map (fun d => d.parameters.length) = some 1 := ⟨List.mem_of_getElem? (i := 550) (by decide +kernel), List.mem_of_getElem? (i := 90) (by decide +kernel), ⟨by decide +kernel, by decide +kernel⟩, by decide +kernel⟩
theorem ckX4_kept : Cond.code MX4_kept.1 MX4_kept.2.1 MX4_kept.2.2.1 MX4_kept.2.2.2 ∈ lw_tbl ∧ Cond.initialized MX4_kept.1.cls ∈ lw_tbl ∧ (MX4_kept.1.cls ≠ "java/lang/invoke/MethodHandle" ∧ MX4_kept.1.cls ≠ "java/lang/invoke/VarHandle") ∧ (parseMethodDescriptor MX4_kept.1.desc).map (fun d => d.parameters.length) = some 2 := ⟨List.mem_of_getElem? (i := 554) (by decide +kernel), List.mem_of_getElem? (i := 90) (by decide +kernel), ⟨by decide +kernel, by decide +kernel⟩, by decide +kernel⟩
theorem ckX4_entry : Cond.code MX4_entry.1 MX4_entry.2.1 MX4_entry.2.2.1 MX4_entry.2.2.2 ∈ lw_tbl ∧ Cond.initialized MX4_entry.1.cls ∈ lw_tbl ∧ (MX4_entry.1.cls ≠ "java/lang/invoke/MethodHandle" ∧ MX4_entry.1.cls ≠ "java/lang/invoke/VarHandle") ∧ (parseMethodDescriptor MX4_entry.1.desc).map (fun d => d.parameters.length) = some 3 := ⟨List.mem_of_getElem? (i := 563) (by decide +kernel), List.mem_of_getElem? (i := 90) (by decide +kernel), ⟨by decide +kernel, by decide +kernel⟩, by decide +kernel⟩
theorem ckX4_read : Cond.code MX4_read.1 MX4_read.2.1 MX4_read.2.2.1 MX4_read.2.2.2 ∈ lw_tbl ∧ Cond.initialized MX4_read.1.cls ∈ lw_tbl ∧ (MX4_read.1.cls ≠ "java/lang/invoke/MethodHandle" ∧ MX4_read.1.cls ≠ "java/lang/invoke/VarHandle") ∧ (parseMethodDescriptor MX4_read.1.desc).map (fun d => d.parameters.length) = some 3 := ⟨List.mem_of_getElem? (i := 567) (by decide +kernel), List.mem_of_getElem? (i := 90) (by decide +kernel), ⟨by decide +kernel, by decide +kernel⟩, by decide +kernel⟩
theorem ckX4_cause : Cond.code MX4_cause.1 MX4_cause.2.1 MX4_cause.2.2.1 MX4_cause.2.2.2 ∈ lw_tbl ∧ Cond.initialized MX4_cause.1.cls ∈ lw_tbl ∧ (MX4_cause.1.cls ≠ "java/lang/invoke/MethodHandle" ∧ MX4_cause.1.cls ≠ "java/lang/invoke/VarHandle") ∧ (parseMethodDescriptor MX4_cause.1.desc).map (fun d => d.parameters.length) = some 3 := ⟨List.mem_of_getElem? (i := 571) (by decide +kernel), List.mem_of_getElem? (i := 90) (by decide +kernel), ⟨by decide +kernel, by decide +kernel⟩, by decide +kernel⟩
theorem ckX4_apart : Cond.code MX4_apart.1 MX4_apart.2.1 MX4_apart.2.2.1 MX4_apart.2.2.2 ∈ lw_tbl ∧ Cond.initialized MX4_apart.1.cls ∈ lw_tbl ∧ (MX4_apart.1.cls ≠ "java/lang/invoke/MethodHandle" ∧ MX4_apart.1.cls ≠ "java/lang/invoke/VarHandle") ∧ (parseMethodDescriptor MX4_apart.1.desc).map (fun d => d.parameters.length) = some 2 := ⟨List.mem_of_getElem? (i := 584) (by decide +kernel), List.mem_of_getElem? (i := 90) (by decide +kernel), ⟨by decide +kernel, by decide +kernel⟩, by decide +kernel⟩
theorem ckX4_fork : Cond.code MX4_fork.1 MX4_fork.2.1 MX4_fork.2.2.1 MX4_fork.2.2.2 ∈ lw_tbl ∧ Cond.initialized MX4_fork.1.cls ∈ lw_tbl ∧ (MX4_fork.1.cls ≠ "java/lang/invoke/MethodHandle" ∧ MX4_fork.1.cls ≠ "java/lang/invoke/VarHandle") ∧ (parseMethodDescriptor MX4_fork.1.desc).map (fun d => d.parameters.length) = some 2 := ⟨List.mem_of_getElem? (i := 588) (by decide +kernel), List.mem_of_getElem? (i := 90) (by decide +kernel), ⟨by decide +kernel, by decide +kernel⟩, by decide +kernel⟩
theorem ckX4_nearest : Cond.code MX4_nearest.1 MX4_nearest.2.1 MX4_nearest.2.2.1 MX4_nearest.2.2.2 ∈ lw_tbl ∧ Cond.initialized MX4_nearest.1.cls ∈ lw_tbl ∧ (MX4_nearest.1.cls ≠ "java/lang/invoke/MethodHandle" ∧ MX4_nearest.1.cls ≠ "java/lang/invoke/VarHandle") ∧ (parseMethodDescriptor MX4_nearest.1.desc).map (fun d => d.parameters.length) = some 0 := ⟨List.mem_of_getElem? (i := 592) (by decide +kernel), List.mem_of_getElem? (i := 90) (by decide +kernel), ⟨by decide +kernel, by decide +kernel⟩, by decide +kernel⟩
theorem ckX4_count : Cond.code MX4_count.1 MX4_count.2.1 MX4_count.2.2.1 MX4_count.2.2.2 ∈ lw_tbl ∧ Cond.initialized MX4_count.1.cls ∈ lw_tbl ∧ (MX4_count.1.cls ≠ "java/lang/invoke/MethodHandle" ∧ MX4_count.1.cls ≠ "java/lang/invoke/VarHandle") ∧ (parseMethodDescriptor MX4_count.1.desc).map (fun d => d.parameters.length) = some 1 := ⟨List.mem_of_getElem? (i := 600) (by decide +kernel), List.mem_of_getElem? (i := 90) (by decide +kernel), ⟨by decide +kernel, by decide +kernel⟩, by decide +kernel⟩
theorem ckX4_digest : Cond.code MX4_digest.1 MX4_digest.2.1 MX4_digest.2.2.1 MX4_digest.2.2.2 ∈ lw_tbl ∧ Cond.initialized MX4_digest.1.cls ∈ lw_tbl ∧ (MX4_digest.1.cls ≠ "java/lang/invoke/MethodHandle" ∧ MX4_digest.1.cls ≠ "java/lang/invoke/VarHandle") ∧ (parseMethodDescriptor MX4_digest.1.desc).map (fun d => d.parameters.length) = some 0 := ⟨List.mem_of_getElem? (i := 623) (by decide +kernel), List.mem_of_getElem? (i := 90) (by decide +kernel), ⟨by decide +kernel, by decide +kernel⟩, by decide +kernel⟩
theorem ckX4_remember : Cond.code MX4_remember.1 MX4_remember.2.1 MX4_remember.2.2.1 MX4_remember.2.2.2 ∈ lw_tbl ∧ Cond.initialized MX4_remember.1.cls ∈ lw_tbl ∧ (MX4_remember.1.cls ≠ "java/lang/invoke/MethodHandle" ∧ MX4_remember.1.cls ≠ "java/lang/invoke/VarHandle") ∧ (parseMethodDescriptor MX4_remember.1.desc).map (fun d => d.parameters.length) = some 0 := ⟨List.mem_of_getElem? (i := 420) (by decide +kernel), List.mem_of_getElem? (i := 90) (by decide +kernel), ⟨by decide +kernel, by decide +kernel⟩, by decide +kernel⟩
theorem ckX4_baseForGame : Cond.code MX4_baseForGame.1 MX4_baseForGame.2.1 MX4_baseForGame.2.2.1 MX4_baseForGame.2.2.2 ∈ lw_tbl ∧ Cond.initialized MX4_baseForGame.1.cls ∈ lw_tbl ∧ (MX4_baseForGame.1.cls ≠ "java/lang/invoke/MethodHandle" ∧ MX4_baseForGame.1.cls ≠ "java/lang/invoke/VarHandle") ∧ (parseMethodDescriptor MX4_baseForGame.1.desc).map (fun d => d.parameters.length) = some 0 := ⟨List.mem_of_getElem? (i := 466) (by decide +kernel), List.mem_of_getElem? (i := 90) (by decide +kernel), ⟨by decide +kernel, by decide +kernel⟩, by decide +kernel⟩
theorem ckX4_canBeBase : Cond.code MX4_canBeBase.1 MX4_canBeBase.2.1 MX4_canBeBase.2.2.1 MX4_canBeBase.2.2.2 ∈ lw_tbl ∧ Cond.initialized MX4_canBeBase.1.cls ∈ lw_tbl ∧ (MX4_canBeBase.1.cls ≠ "java/lang/invoke/MethodHandle" ∧ MX4_canBeBase.1.cls ≠ "java/lang/invoke/VarHandle") ∧ (parseMethodDescriptor MX4_canBeBase.1.desc).map (fun d => d.parameters.length) = some 2 := ⟨List.mem_of_getElem? (i := 471) (by decide +kernel), List.mem_of_getElem? (i := 90) (by decide +kernel), ⟨by decide +kernel, by decide +kernel⟩, by decide +kernel⟩
theorem ckX4_mendFollowers : Cond.code MX4_mendFollowers.1 MX4_mendFollowers.2.1 MX4_mendFollowers.2.2.1 MX4_mendFollowers.2.2.2 ∈ lw_tbl ∧ Cond.initialized MX4_mendFollowers.1.cls ∈ lw_tbl ∧ (MX4_mendFollowers.1.cls ≠ "java/lang/invoke/MethodHandle" ∧ MX4_mendFollowers.1.cls ≠ "java/lang/invoke/VarHandle") ∧ (parseMethodDescriptor MX4_mendFollowers.1.desc).map (fun d => d.parameters.length) = some 1 := ⟨List.mem_of_getElem? (i := 510) (by decide +kernel), List.mem_of_getElem? (i := 90) (by decide +kernel), ⟨by decide +kernel, by decide +kernel⟩, by decide +kernel⟩
theorem ckX4_packPlace : Cond.code MX4_packPlace.1 MX4_packPlace.2.1 MX4_packPlace.2.2.1 MX4_packPlace.2.2.2 ∈ lw_tbl ∧ Cond.initialized MX4_packPlace.1.cls ∈ lw_tbl ∧ (MX4_packPlace.1.cls ≠ "java/lang/invoke/MethodHandle" ∧ MX4_packPlace.1.cls ≠ "java/lang/invoke/VarHandle") ∧ (parseMethodDescriptor MX4_packPlace.1.desc).map (fun d => d.parameters.length) = some 1 := ⟨List.mem_of_getElem? (i := 538) (by decide +kernel), List.mem_of_getElem? (i := 90) (by decide +kernel), ⟨by decide +kernel, by decide +kernel⟩, by decide +kernel⟩
theorem ckX4_propertyOf : Cond.code MX4_propertyOf.1 MX4_propertyOf.2.1 MX4_propertyOf.2.2.1 MX4_propertyOf.2.2.2 ∈ lw_tbl ∧ Cond.initialized MX4_propertyOf.1.cls ∈ lw_tbl ∧ (MX4_propertyOf.1.cls ≠ "java/lang/invoke/MethodHandle" ∧ MX4_propertyOf.1.cls ≠ "java/lang/invoke/VarHandle") ∧ (parseMethodDescriptor MX4_propertyOf.1.desc).map (fun d => d.parameters.length) = some 2 := ⟨List.mem_of_getElem? (i := 558) (by decide +kernel), List.mem_of_getElem? (i := 90) (by decide +kernel), ⟨by decide +kernel, by decide +kernel⟩, by decide +kernel⟩
theorem ckX4_tally : Cond.code MX4_tally.1 MX4_tally.2.1 MX4_tally.2.2.1 MX4_tally.2.2.2 ∈ lw_tbl ∧ Cond.initialized MX4_tally.1.cls ∈ lw_tbl ∧ (MX4_tally.1.cls ≠ "java/lang/invoke/MethodHandle" ∧ MX4_tally.1.cls ≠ "java/lang/invoke/VarHandle") ∧ (parseMethodDescriptor MX4_tally.1.desc).map (fun d => d.parameters.length) = some 1 := ⟨List.mem_of_getElem? (i := 604) (by decide +kernel), List.mem_of_getElem? (i := 90) (by decide +kernel), ⟨by decide +kernel, by decide +kernel⟩, by decide +kernel⟩
theorem ckX4_unreadable : Cond.code MX4_unreadable.1 MX4_unreadable.2.1 MX4_unreadable.2.2.1 MX4_unreadable.2.2.2 ∈ lw_tbl ∧ Cond.initialized MX4_unreadable.1.cls ∈ lw_tbl ∧ (MX4_unreadable.1.cls ≠ "java/lang/invoke/MethodHandle" ∧ MX4_unreadable.1.cls ≠ "java/lang/invoke/VarHandle") ∧ (parseMethodDescriptor MX4_unreadable.1.desc).map (fun d => d.parameters.length) = some 0 := ⟨List.mem_of_getElem? (i := 613) (by decide +kernel), List.mem_of_getElem? (i := 90) (by decide +kernel), ⟨by decide +kernel, by decide +kernel⟩, by decide +kernel⟩
theorem ckX4_reasonOf : Cond.code MX4_reasonOf.1 MX4_reasonOf.2.1 MX4_reasonOf.2.2.1 MX4_reasonOf.2.2.2 ∈ lw_tbl ∧ Cond.initialized MX4_reasonOf.1.cls ∈ lw_tbl ∧ (MX4_reasonOf.1.cls ≠ "java/lang/invoke/MethodHandle" ∧ MX4_reasonOf.1.cls ≠ "java/lang/invoke/VarHandle") ∧ (parseMethodDescriptor MX4_reasonOf.1.desc).map (fun d => d.parameters.length) = some 1 := ⟨List.mem_of_getElem? (i := 579) (by decide +kernel), List.mem_of_getElem? (i := 90) (by decide +kernel), ⟨by decide +kernel, by decide +kernel⟩, by decide +kernel⟩
theorem ckX4_causeOf : Cond.code MX4_causeOf.1 MX4_causeOf.2.1 MX4_causeOf.2.2.1 MX4_causeOf.2.2.2 ∈ lw_tbl ∧ Cond.initialized MX4_causeOf.1.cls ∈ lw_tbl ∧ (MX4_causeOf.1.cls ≠ "java/lang/invoke/MethodHandle" ∧ MX4_causeOf.1.cls ≠ "java/lang/invoke/VarHandle") ∧ (parseMethodDescriptor MX4_causeOf.1.desc).map (fun d => d.parameters.length) = some 3 := ⟨List.mem_of_getElem? (i := 575) (by decide +kernel), List.mem_of_getElem? (i := 90) (by decide +kernel), ⟨by decide +kernel, by decide +kernel⟩, by decide +kernel⟩
theorem ckX4_nearestToGame : Cond.code MX4_nearestToGame.1 MX4_nearestToGame.2.1 MX4_nearestToGame.2.2.1 MX4_nearestToGame.2.2.2 ∈ lw_tbl ∧ Cond.initialized MX4_nearestToGame.1.cls ∈ lw_tbl ∧ (MX4_nearestToGame.1.cls ≠ "java/lang/invoke/MethodHandle" ∧ MX4_nearestToGame.1.cls ≠ "java/lang/invoke/VarHandle") ∧ (parseMethodDescriptor MX4_nearestToGame.1.desc).map (fun d => d.parameters.length) = some 0 := ⟨List.mem_of_getElem? (i := 596) (by decide +kernel), List.mem_of_getElem? (i := 90) (by decide +kernel), ⟨by decide +kernel, by decide +kernel⟩, by decide +kernel⟩
theorem ckX4_addPlace : Cond.code MX4_addPlace.1 MX4_addPlace.2.1 MX4_addPlace.2.2.1 MX4_addPlace.2.2.2 ∈ lw_tbl ∧ Cond.initialized MX4_addPlace.1.cls ∈ lw_tbl ∧ (MX4_addPlace.1.cls ≠ "java/lang/invoke/MethodHandle" ∧ MX4_addPlace.1.cls ≠ "java/lang/invoke/VarHandle") ∧ (parseMethodDescriptor MX4_addPlace.1.desc).map (fun d => d.parameters.length) = some 2 := ⟨List.mem_of_getElem? (i := 629) (by decide +kernel), List.mem_of_getElem? (i := 90) (by decide +kernel), ⟨by decide +kernel, by decide +kernel⟩, by decide +kernel⟩
theorem ckX4_distance : Cond.code MX4_distance.1 MX4_distance.2.1 MX4_distance.2.2.1 MX4_distance.2.2.2 ∈ lw_tbl ∧ Cond.initialized MX4_distance.1.cls ∈ lw_tbl ∧ (MX4_distance.1.cls ≠ "java/lang/invoke/MethodHandle" ∧ MX4_distance.1.cls ≠ "java/lang/invoke/VarHandle") ∧ (parseMethodDescriptor MX4_distance.1.desc).map (fun d => d.parameters.length) = some 3 := ⟨List.mem_of_getElem? (i := 484) (by decide +kernel), List.mem_of_getElem? (i := 90) (by decide +kernel), ⟨by decide +kernel, by decide +kernel⟩, by decide +kernel⟩
theorem ckX4_raiseRead : Cond.code MX4_raiseRead.1 MX4_raiseRead.2.1 MX4_raiseRead.2.2.1 MX4_raiseRead.2.2.2 ∈ lw_tbl ∧ Cond.initialized MX4_raiseRead.1.cls ∈ lw_tbl ∧ (MX4_raiseRead.1.cls ≠ "java/lang/invoke/MethodHandle" ∧ MX4_raiseRead.1.cls ≠ "java/lang/invoke/VarHandle") ∧ (parseMethodDescriptor MX4_raiseRead.1.desc).map (fun d => d.parameters.length) = some 3 := ⟨List.mem_of_getElem? (i := 488) (by decide +kernel), List.mem_of_getElem? (i := 90) (by decide +kernel), ⟨by decide +kernel, by decide +kernel⟩, by decide +kernel⟩
theorem ckX4_sizeOf : Cond.code MX4_sizeOf.1 MX4_sizeOf.2.1 MX4_sizeOf.2.2.1 MX4_sizeOf.2.2.2 ∈ lw_tbl ∧ Cond.initialized MX4_sizeOf.1.cls ∈ lw_tbl ∧ (MX4_sizeOf.1.cls ≠ "java/lang/invoke/MethodHandle" ∧ MX4_sizeOf.1.cls ≠ "java/lang/invoke/VarHandle") ∧ (parseMethodDescriptor MX4_sizeOf.1.desc).map (fun d => d.parameters.length) = some 1 := ⟨List.mem_of_getElem? (i := 274) (by decide +kernel), List.mem_of_getElem? (i := 90) (by decide +kernel), ⟨by decide +kernel, by decide +kernel⟩, by decide +kernel⟩
theorem ckX4_sumOf : Cond.code MX4_sumOf.1 MX4_sumOf.2.1 MX4_sumOf.2.2.1 MX4_sumOf.2.2.2 ∈ lw_tbl ∧ Cond.initialized MX4_sumOf.1.cls ∈ lw_tbl ∧ (MX4_sumOf.1.cls ≠ "java/lang/invoke/MethodHandle" ∧ MX4_sumOf.1.cls ≠ "java/lang/invoke/VarHandle") ∧ (parseMethodDescriptor MX4_sumOf.1.desc).map (fun d => d.parameters.length) = some 2 := ⟨List.mem_of_getElem? (i := 461) (by decide +kernel), List.mem_of_getElem? (i := 90) (by decide +kernel), ⟨by decide +kernel, by decide +kernel⟩, by decide +kernel⟩
theorem ckX4_raiseValues : Cond.code MX4_raiseValues.1 MX4_raiseValues.2.1 MX4_raiseValues.2.2.1 MX4_raiseValues.2.2.2 ∈ lw_tbl ∧ Cond.initialized MX4_raiseValues.1.cls ∈ lw_tbl ∧ (MX4_raiseValues.1.cls ≠ "java/lang/invoke/MethodHandle" ∧ MX4_raiseValues.1.cls ≠ "java/lang/invoke/VarHandle") ∧ (parseMethodDescriptor MX4_raiseValues.1.desc).map (fun d => d.parameters.length) = some 3 := ⟨List.mem_of_getElem? (i := 439) (by decide +kernel), List.mem_of_getElem? (i := 90) (by decide +kernel), ⟨by decide +kernel, by decide +kernel⟩, by decide +kernel⟩
theorem ckX5_init : Cond.code MX5_init.1 MX5_init.2.1 MX5_init.2.2.1 MX5_init.2.2.2 ∈ lw_tbl ∧ Cond.initialized MX5_init.1.cls ∈ lw_tbl ∧ (MX5_init.1.cls ≠ "java/lang/invoke/MethodHandle" ∧ MX5_init.1.cls ≠ "java/lang/invoke/VarHandle") ∧ (parseMethodDescriptor MX5_init.1.desc).map (fun d => d.parameters.length) = some 0 := ⟨List.mem_of_getElem? (i := 634) (by decide +kernel), List.mem_of_getElem? (i := 95) (by decide +kernel), ⟨by decide +kernel, by decide +kernel⟩, by decide +kernel⟩
theorem ckX5_in : Cond.code MX5_in.1 MX5_in.2.1 MX5_in.2.2.1 MX5_in.2.2.2 ∈ lw_tbl ∧ Cond.initialized MX5_in.1.cls ∈ lw_tbl ∧ (MX5_in.1.cls ≠ "java/lang/invoke/MethodHandle" ∧ MX5_in.1.cls ≠ "java/lang/invoke/VarHandle") ∧ (parseMethodDescriptor MX5_in.1.desc).map (fun d => d.parameters.length) = some 3 := ⟨List.mem_of_getElem? (i := 699) (by decide +kernel), List.mem_of_getElem? (i := 95) (by decide +kernel), ⟨by decide +kernel, by decide +kernel⟩, by decide +kernel⟩
theorem ckX5_valuesOf : Cond.code MX5_valuesOf.1 MX5_valuesOf.2.1 MX5_valuesOf.2.2.1 MX5_valuesOf.2.2.2 ∈ lw_tbl ∧ Cond.initialized MX5_valuesOf.1.cls ∈ lw_tbl ∧ (MX5_valuesOf.1.cls ≠ "java/lang/invoke/MethodHandle" ∧ MX5_valuesOf.1.cls ≠ "java/lang/invoke/VarHandle") ∧ (parseMethodDescriptor MX5_valuesOf.1.desc).map (fun d => d.parameters.length) = some 1 := ⟨List.mem_of_getElem? (i := 743) (by decide +kernel), List.mem_of_getElem? (i := 95) (by decide +kernel), ⟨by decide +kernel, by decide +kernel⟩, by decide +kernel⟩
theorem ckX5_of : Cond.code MX5_of.1 MX5_of.2.1 MX5_of.2.2.1 MX5_of.2.2.2 ∈ lw_tbl ∧ Cond.initialized MX5_of.1.cls ∈ lw_tbl ∧ (MX5_of.1.cls ≠ "java/lang/invoke/MethodHandle" ∧ MX5_of.1.cls ≠ "java/lang/invoke/VarHandle") ∧ (parseMethodDescriptor MX5_of.1.desc).map (fun d => d.parameters.length) = some 2 := ⟨List.mem_of_getElem? (i := 815) (by decide +kernel), List.mem_of_getElem? (i := 95) (by decide +kernel), ⟨by decide +kernel, by decide +kernel⟩, by decide +kernel⟩
theorem ckX5_put : Cond.code MX5_put.1 MX5_put.2.1 MX5_put.2.2.1 MX5_put.2.2.2 ∈ lw_tbl ∧ Cond.initialized MX5_put.1.cls ∈ lw_tbl ∧ (MX5_put.1.cls ≠ "java/lang/invoke/MethodHandle" ∧ MX5_put.1.cls ≠ "java/lang/invoke/VarHandle") ∧ (parseMethodDescriptor MX5_put.1.desc).map (fun d => d.parameters.length) = some 3 := ⟨List.mem_of_getElem? (i := 831) (by decide +kernel), List.mem_of_getElem? (i := 95) (by decide +kernel), ⟨by decide +kernel, by decide +kernel⟩, by decide +kernel⟩
theorem ckX5_isWhole : Cond.code MX5_isWhole.1 MX5_isWhole.2.1 MX5_isWhole.2.2.1 MX5_isWhole.2.2.2 ∈ lw_tbl ∧ Cond.initialized MX5_isWhole.1.cls ∈ lw_tbl ∧ (MX5_isWhole.1.cls ≠ "java/lang/invoke/MethodHandle" ∧ MX5_isWhole.1.cls ≠ "java/lang/invoke/VarHandle") ∧ (parseMethodDescriptor MX5_isWhole.1.desc).map (fun d => d.parameters.length) = some 1 := ⟨List.mem_of_getElem? (i := 819) (by decide +kernel), List.mem_of_getElem? (i := 95) (by decide +kernel), ⟨by decide +kernel, by decide +kernel⟩, by decide +kernel⟩
theorem ckX5_keeps : Cond.code MX5_keeps.1 MX5_keeps.2.1 MX5_keeps.2.2.1 MX5_keeps.2.2.2 ∈ lw_tbl ∧ Cond.initialized MX5_keeps.1.cls ∈ lw_tbl ∧ (MX5_keeps.1.cls ≠ "java/lang/invoke/MethodHandle" ∧ MX5_keeps.1.cls ≠ "java/lang/invoke/VarHandle") ∧ (parseMethodDescriptor MX5_keeps.1.desc).map (fun d => d.parameters.length) = some 0 := ⟨List.mem_of_getElem? (i := 759) (by decide +kernel), List.mem_of_getElem? (i := 95) (by decide +kernel), ⟨by decide +kernel, by decide +kernel⟩, by decide +kernel⟩
theorem ckX5_undo : Cond.code MX5_undo.1 MX5_undo.2.1 MX5_undo.2.2.1 MX5_undo.2.2.2 ∈ lw_tbl ∧ Cond.initialized MX5_undo.1.cls ∈ lw_tbl ∧ (MX5_undo.1.cls ≠ "java/lang/invoke/MethodHandle" ∧ MX5_undo.1.cls ≠ "java/lang/invoke/VarHandle") ∧ (parseMethodDescriptor MX5_undo.1.desc).map (fun d => d.parameters.length) = some 0 := ⟨List.mem_of_getElem? (i := 692) (by decide +kernel), List.mem_of_getElem? (i := 95) (by decide +kernel), ⟨by decide +kernel, by decide +kernel⟩, by decide +kernel⟩
theorem ckX5_slotOf : Cond.code MX5_slotOf.1 MX5_slotOf.2.1 MX5_slotOf.2.2.1 MX5_slotOf.2.2.2 ∈ lw_tbl ∧ Cond.initialized MX5_slotOf.1.cls ∈ lw_tbl ∧ (MX5_slotOf.1.cls ≠ "java/lang/invoke/MethodHandle" ∧ MX5_slotOf.1.cls ≠ "java/lang/invoke/VarHandle") ∧ (parseMethodDescriptor MX5_slotOf.1.desc).map (fun d => d.parameters.length) = some 1 := ⟨List.mem_of_getElem? (i := 811) (by decide +kernel), List.mem_of_getElem? (i := 95) (by decide +kernel), ⟨by decide +kernel, by decide +kernel⟩, by decide +kernel⟩
theorem ckX5_raises : Cond.code MX5_raises.1 MX5_raises.2.1 MX5_raises.2.2.1 MX5_raises.2.2.2 ∈ lw_tbl ∧ Cond.initialized MX5_raises.1.cls ∈ lw_tbl ∧ (MX5_raises.1.cls ≠ "java/lang/invoke/MethodHandle" ∧ MX5_raises.1.cls ≠ "java/lang/invoke/VarHandle") ∧ (parseMethodDescriptor MX5_raises.1.desc).map (fun d => d.parameters.length) = some 0 := ⟨List.mem_of_getElem? (i := 779) (by decide +kernel), List.mem_of_getElem? (i := 95) (by decide +kernel), ⟨by decide +kernel, by decide +kernel⟩, by decide +kernel⟩
theorem ckX5_raisesTo : Cond.code MX5_raisesTo.1 MX5_raisesTo.2.1 MX5_raisesTo.2.2.1 MX5_raisesTo.2.2.2 ∈ lw_tbl ∧ Cond.initialized MX5_raisesTo.1.cls ∈ lw_tbl ∧ (MX5_raisesTo.1.cls ≠ "java/lang/invoke/MethodHandle" ∧ MX5_raisesTo.1.cls ≠ "java/lang/invoke/VarHandle") ∧ (parseMethodDescriptor MX5_raisesTo.1.desc).map (fun d => d.parameters.length) = some 1 := ⟨List.mem_of_getElem? (i := 823) (by decide +kernel), List.mem_of_getElem? (i := 95) (by decide +kernel), ⟨by decide +kernel, by decide +kernel⟩, by decide +kernel⟩
theorem ckX5_sumNow : Cond.code MX5_sumNow.1 MX5_sumNow.2.1 MX5_sumNow.2.2.1 MX5_sumNow.2.2.2 ∈ lw_tbl ∧ Cond.initialized MX5_sumNow.1.cls ∈ lw_tbl ∧ (MX5_sumNow.1.cls ≠ "java/lang/invoke/MethodHandle" ∧ MX5_sumNow.1.cls ≠ "java/lang/invoke/VarHandle") ∧ (parseMethodDescriptor MX5_sumNow.1.desc).map (fun d => d.parameters.length) = some 0 := ⟨List.mem_of_getElem? (i := 791) (by decide +kernel), List.mem_of_getElem? (i := 95) (by decide +kernel), ⟨by decide +kernel, by decide +kernel⟩, by decide +kernel⟩
theorem ckX5_takesGame : Cond.code MX5_takesGame.1 MX5_takesGame.2.1 MX5_takesGame.2.2.1 MX5_takesGame.2.2.2 ∈ lw_tbl ∧ Cond.initialized MX5_takesGame.1.cls ∈ lw_tbl ∧ (MX5_takesGame.1.cls ≠ "java/lang/invoke/MethodHandle" ∧ MX5_takesGame.1.cls ≠ "java/lang/invoke/VarHandle") ∧ (parseMethodDescriptor MX5_takesGame.1.desc).map (fun d => d.parameters.length) = some 0 := ⟨List.mem_of_getElem? (i := 775) (by decide +kernel), List.mem_of_getElem? (i := 95) (by decide +kernel), ⟨by decide +kernel, by decide +kernel⟩, by decide +kernel⟩
theorem ckX5_givesGame : Cond.code MX5_givesGame.1 MX5_givesGame.2.1 MX5_givesGame.2.2.1 MX5_givesGame.2.2.2 ∈ lw_tbl ∧ Cond.initialized MX5_givesGame.1.cls ∈ lw_tbl ∧ (MX5_givesGame.1.cls ≠ "java/lang/invoke/MethodHandle" ∧ MX5_givesGame.1.cls ≠ "java/lang/invoke/VarHandle") ∧ (parseMethodDescriptor MX5_givesGame.1.desc).map (fun d => d.parameters.length) = some 0 := ⟨List.mem_of_getElem? (i := 783) (by decide +kernel), List.mem_of_getElem? (i := 95) (by decide +kernel), ⟨by decide +kernel, by decide +kernel⟩, by decide +kernel⟩
theorem ckX5_climbs : Cond.code MX5_climbs.1 MX5_climbs.2.1 MX5_climbs.2.2.1 MX5_climbs.2.2.2 ∈ lw_tbl ∧ Cond.initialized MX5_climbs.1.cls ∈ lw_tbl ∧ (MX5_climbs.1.cls ≠ "java/lang/invoke/MethodHandle" ∧ MX5_climbs.1.cls ≠ "java/lang/invoke/VarHandle") ∧ (parseMethodDescriptor MX5_climbs.1.desc).map (fun d => d.parameters.length) = some 1 := ⟨List.mem_of_getElem? (i := 807) (by decide +kernel), List.mem_of_getElem? (i := 95) (by decide +kernel), ⟨by decide +kernel, by decide +kernel⟩, by decide +kernel⟩
theorem ckX5_reads : Cond.code MX5_reads.1 MX5_reads.2.1 MX5_reads.2.2.1 MX5_reads.2.2.2 ∈ lw_tbl ∧ Cond.initialized MX5_reads.1.cls ∈ lw_tbl ∧ (MX5_reads.1.cls ≠ "java/lang/invoke/MethodHandle" ∧ MX5_reads.1.cls ≠ "java/lang/invoke/VarHandle") ∧ (parseMethodDescriptor MX5_reads.1.desc).map (fun d => d.parameters.length) = some 1 := ⟨List.mem_of_getElem? (i := 803) (by decide +kernel), List.mem_of_getElem? (i := 95) (by decide +kernel), ⟨by decide +kernel, by decide +kernel⟩, by decide +kernel⟩
theorem ckX5_linksOf : Cond.code MX5_linksOf.1 MX5_linksOf.2.1 MX5_linksOf.2.2.1 MX5_linksOf.2.2.2 ∈ lw_tbl ∧ Cond.initialized MX5_linksOf.1.cls ∈ lw_tbl ∧ (MX5_linksOf.1.cls ≠ "java/lang/invoke/MethodHandle" ∧ MX5_linksOf.1.cls ≠ "java/lang/invoke/VarHandle") ∧ (parseMethodDescriptor MX5_linksOf.1.desc).map (fun d => d.parameters.length) = some 1 := ⟨List.mem_of_getElem? (i := 875) (by decide +kernel), List.mem_of_getElem? (i := 95) (by decide +kernel), ⟨by decide +kernel, by decide +kernel⟩, by decide +kernel⟩
theorem ckX5_setsAside : Cond.code MX5_setsAside.1 MX5_setsAside.2.1 MX5_setsAside.2.2.1 MX5_setsAside.2.2.2 ∈ lw_tbl ∧ Cond.initialized MX5_setsAside.1.cls ∈ lw_tbl ∧ (MX5_setsAside.1.cls ≠ "java/lang/invoke/MethodHandle" ∧ MX5_setsAside.1.cls ≠ "java/lang/invoke/VarHandle") ∧ (parseMethodDescriptor MX5_setsAside.1.desc).map (fun d => d.parameters.length) = some 0 := ⟨List.mem_of_getElem? (i := 799) (by decide +kernel), List.mem_of_getElem? (i := 95) (by decide +kernel), ⟨by decide +kernel, by decide +kernel⟩, by decide +kernel⟩
theorem ckX5_differences : Cond.code MX5_differences.1 MX5_differences.2.1 MX5_differences.2.2.1 MX5_differences.2.2.2 ∈ lw_tbl ∧ Cond.initialized MX5_differences.1.cls ∈ lw_tbl ∧ (MX5_differences.1.cls ≠ "java/lang/invoke/MethodHandle" ∧ MX5_differences.1.cls ≠ "java/lang/invoke/VarHandle") ∧ (parseMethodDescriptor MX5_differences.1.desc).map (fun d => d.parameters.length) = some 1 := ⟨List.mem_of_getElem? (i := 827) (by decide +kernel), List.mem_of_getElem? (i := 95) (by decide +kernel), ⟨by decide +kernel, by decide +kernel⟩, by decide +kernel⟩
theorem ckX5_writesWhole : Cond.code MX5_writesWhole.1 MX5_writesWhole.2.1 MX5_writesWhole.2.2.1 MX5_writesWhole.2.2.2 ∈ lw_tbl ∧ Cond.initialized MX5_writesWhole.1.cls ∈ lw_tbl ∧ (MX5_writesWhole.1.cls ≠ "java/lang/invoke/MethodHandle" ∧ MX5_writesWhole.1.cls ≠ "java/lang/invoke/VarHandle") ∧ (parseMethodDescriptor MX5_writesWhole.1.desc).map (fun d => d.parameters.length) = some 1 := ⟨List.mem_of_getElem? (i := 839) (by decide +kernel), List.mem_of_getElem? (i := 95) (by decide +kernel), ⟨by decide +kernel, by decide +kernel⟩, by decide +kernel⟩
theorem ckX5_writesDifference : Cond.code MX5_writesDifference.1 MX5_writesDifference.2.1 MX5_writesDifference.2.2.1 MX5_writesDifference.2.2.2 ∈ lw_tbl ∧ Cond.initialized MX5_writesDifference.1.cls ∈ lw_tbl ∧ (MX5_writesDifference.1.cls ≠ "java/lang/invoke/MethodHandle" ∧ MX5_writesDifference.1.cls ≠ "java/lang/invoke/VarHandle") ∧ (parseMethodDescriptor MX5_writesDifference.1.desc).map (fun d => d.parameters.length) = some 2 := ⟨List.mem_of_getElem? (i := 835) (by decide +kernel), List.mem_of_getElem? (i := 95) (by decide +kernel), ⟨by decide +kernel, by decide +kernel⟩, by decide +kernel⟩
theorem ckX5_type : Cond.code MX5_type.1 MX5_type.2.1 MX5_type.2.2.1 MX5_type.2.2.2 ∈ lw_tbl ∧ Cond.initialized MX5_type.1.cls ∈ lw_tbl ∧ (MX5_type.1.cls ≠ "java/lang/invoke/MethodHandle" ∧ MX5_type.1.cls ≠ "java/lang/invoke/VarHandle") ∧ (parseMethodDescriptor MX5_type.1.desc).map (fun d => d.parameters.length) = some 1 := ⟨List.mem_of_getElem? (i := 696) (by decide +kernel), List.mem_of_getElem? (i := 95) (by decide +kernel), ⟨by decide +kernel, by decide +kernel⟩, by decide +kernel⟩
theorem ckX5_clear : Cond.code MX5_clear.1 MX5_clear.2.1 MX5_clear.2.2.1 MX5_clear.2.2.2 ∈ lw_tbl ∧ Cond.initialized MX5_clear.1.cls ∈ lw_tbl ∧ (MX5_clear.1.cls ≠ "java/lang/invoke/MethodHandle" ∧ MX5_clear.1.cls ≠ "java/lang/invoke/VarHandle") ∧ (parseMethodDescriptor MX5_clear.1.desc).map (fun d => d.parameters.length) = some 0 := ⟨List.mem_of_getElem? (i := 703) (by decide +kernel), List.mem_of_getElem? (i := 95) (by decide +kernel), ⟨by decide +kernel, by decide +kernel⟩, by decide +kernel⟩
theorem ckX5_next : Cond.code MX5_next.1 MX5_next.2.1 MX5_next.2.2.1 MX5_next.2.2.2 ∈ lw_tbl ∧ Cond.initialized MX5_next.1.cls ∈ lw_tbl ∧ (MX5_next.1.cls ≠ "java/lang/invoke/MethodHandle" ∧ MX5_next.1.cls ≠ "java/lang/invoke/VarHandle") ∧ (parseMethodDescriptor MX5_next.1.desc).map (fun d => d.parameters.length) = some 0 := ⟨List.mem_of_getElem? (i := 719) (by decide +kernel), List.mem_of_getElem? (i := 95) (by decide +kernel), ⟨by decide +kernel, by decide +kernel⟩, by decide +kernel⟩
theorem ckX5_isDigit : Cond.code MX5_isDigit.1 MX5_isDigit.2.1 MX5_isDigit.2.2.1 MX5_isDigit.2.2.2 ∈ lw_tbl ∧ Cond.initialized MX5_isDigit.1.cls ∈ lw_tbl ∧ (MX5_isDigit.1.cls ≠ "java/lang/invoke/MethodHandle" ∧ MX5_isDigit.1.cls ≠ "java/lang/invoke/VarHandle") ∧ (parseMethodDescriptor MX5_isDigit.1.desc).map (fun d => d.parameters.length) = some 0 := ⟨List.mem_of_getElem? (i := 751) (by decide +kernel), List.mem_of_getElem? (i := 95) (by decide +kernel), ⟨by decide +kernel, by decide +kernel⟩, by decide +kernel⟩
theorem ckX5_skips : Cond.code MX5_skips.1 MX5_skips.2.1 MX5_skips.2.2.1 MX5_skips.2.2.2 ∈ lw_tbl ∧ Cond.initialized MX5_skips.1.cls ∈ lw_tbl ∧ (MX5_skips.1.cls ≠ "java/lang/invoke/MethodHandle" ∧ MX5_skips.1.cls ≠ "java/lang/invoke/VarHandle") ∧ (parseMethodDescriptor MX5_skips.1.desc).map (fun d => d.parameters.length) = some 0 := ⟨List.mem_of_getElem? (i := 715) (by decide +kernel), List.mem_of_getElem? (i := 95) (by decide +kernel), ⟨by decide +kernel, by decide +kernel⟩, by decide +kernel⟩
theorem ckX5_fails : Cond.code MX5_fails.1 MX5_fails.2.1 MX5_fails.2.2.1 MX5_fails.2.2.2 ∈ lw_tbl ∧ Cond.initialized MX5_fails.1.cls ∈ lw_tbl ∧ (MX5_fails.1.cls ≠ "java/lang/invoke/MethodHandle" ∧ MX5_fails.1.cls ≠ "java/lang/invoke/VarHandle") ∧ (parseMethodDescriptor MX5_fails.1.desc).map (fun d => d.parameters.length) = some 1 := ⟨List.mem_of_getElem? (i := 740) (by decide +kernel), List.mem_of_getElem? (i := 95) (by decide +kernel), ⟨by decide +kernel, by decide +kernel⟩, by decide +kernel⟩
theorem ckX5_number : Cond.code MX5_number.1 MX5_number.2.1 MX5_number.2.2.1 MX5_number.2.2.2 ∈ lw_tbl ∧ Cond.initialized MX5_number.1.cls ∈ lw_tbl ∧ (MX5_number.1.cls ≠ "java/lang/invoke/MethodHandle" ∧ MX5_number.1.cls ≠ "java/lang/invoke/VarHandle") ∧ (parseMethodDescriptor MX5_number.1.desc).map (fun d => d.parameters.length) = some 2 := ⟨List.mem_of_getElem? (i := 747) (by decide +kernel), List.mem_of_getElem? (i := 95) (by decide +kernel), ⟨by decide +kernel, by decide +kernel⟩, by decide +kernel⟩
theorem ckX5_amount : Cond.code MX5_amount.1 MX5_amount.2.1 MX5_amount.2.2.1 MX5_amount.2.2.2 ∈ lw_tbl ∧ Cond.initialized MX5_amount.1.cls ∈ lw_tbl ∧ (MX5_amount.1.cls ≠ "java/lang/invoke/MethodHandle" ∧ MX5_amount.1.cls ≠ "java/lang/invoke/VarHandle") ∧ (parseMethodDescriptor MX5_amount.1.desc).map (fun d => d.parameters.length) = some 0 := ⟨List.mem_of_getElem? (i := 755) (by decide +kernel), List.mem_of_getElem? (i := 95) (by decide +kernel), ⟨by decide +kernel, by decide +kernel⟩, by decide +kernel⟩
theorem ckX5_isWord : Cond.code MX5_isWord.1 MX5_isWord.2.1 MX5_isWord.2.2.1 MX5_isWord.2.2.2 ∈ lw_tbl ∧ Cond.initialized MX5_isWord.1.cls ∈ lw_tbl ∧ (MX5_isWord.1.cls ≠ "java/lang/invoke/MethodHandle" ∧ MX5_isWord.1.cls ≠ "java/lang/invoke/VarHandle") ∧ (parseMethodDescriptor MX5_isWord.1.desc).map (fun d => d.parameters.length) = some 3 := ⟨List.mem_of_getElem? (i := 732) (by decide +kernel), List.mem_of_getElem? (i := 95) (by decide +kernel), ⟨by decide +kernel, by decide +kernel⟩, by decide +kernel⟩
theorem ckX5_wordOf : Cond.code MX5_wordOf.1 MX5_wordOf.2.1 MX5_wordOf.2.2.1 MX5_wordOf.2.2.2 ∈ lw_tbl ∧ Cond.initialized MX5_wordOf.1.cls ∈ lw_tbl ∧ (MX5_wordOf.1.cls ≠ "java/lang/invoke/MethodHandle" ∧ MX5_wordOf.1.cls ≠ "java/lang/invoke/VarHandle") ∧ (parseMethodDescriptor MX5_wordOf.1.desc).map (fun d => d.parameters.length) = some 1 := ⟨List.mem_of_getElem? (i := 727) (by decide +kernel), List.mem_of_getElem? (i := 95) (by decide +kernel), ⟨by decide +kernel, by decide +kernel⟩, by decide +kernel⟩
theorem ckX5_readsCommand : Cond.code MX5_readsCommand.1 MX5_readsCommand.2.1 MX5_readsCommand.2.2.1 MX5_readsCommand.2.2.2 ∈ lw_tbl ∧ Cond.initialized MX5_readsCommand.1.cls ∈ lw_tbl ∧ (MX5_readsCommand.1.cls ≠ "java/lang/invoke/MethodHandle" ∧ MX5_readsCommand.1.cls ≠ "java/lang/invoke/VarHandle") ∧ (parseMethodDescriptor MX5_readsCommand.1.desc).map (fun d => d.parameters.length) = some 0 := ⟨List.mem_of_getElem? (i := 723) (by decide +kernel), List.mem_of_getElem? (i := 95) (by decide +kernel), ⟨by decide +kernel, by decide +kernel⟩, by decide +kernel⟩
theorem ckX5_readsScript : Cond.code MX5_readsScript.1 MX5_readsScript.2.1 MX5_readsScript.2.2.1 MX5_readsScript.2.2.2 ∈ lw_tbl ∧ Cond.initialized MX5_readsScript.1.cls ∈ lw_tbl ∧ (MX5_readsScript.1.cls ≠ "java/lang/invoke/MethodHandle" ∧ MX5_readsScript.1.cls ≠ "java/lang/invoke/VarHandle") ∧ (parseMethodDescriptor MX5_readsScript.1.desc).map (fun d => d.parameters.length) = some 0 := ⟨List.mem_of_getElem? (i := 711) (by decide +kernel), List.mem_of_getElem? (i := 95) (by decide +kernel), ⟨by decide +kernel, by decide +kernel⟩, by decide +kernel⟩
theorem ckX5_turns : Cond.code MX5_turns.1 MX5_turns.2.1 MX5_turns.2.2.1 MX5_turns.2.2.2 ∈ lw_tbl ∧ Cond.initialized MX5_turns.1.cls ∈ lw_tbl ∧ (MX5_turns.1.cls ≠ "java/lang/invoke/MethodHandle" ∧ MX5_turns.1.cls ≠ "java/lang/invoke/VarHandle") ∧ (parseMethodDescriptor MX5_turns.1.desc).map (fun d => d.parameters.length) = some 2 := ⟨List.mem_of_getElem? (i := 767) (by decide +kernel), List.mem_of_getElem? (i := 95) (by decide +kernel), ⟨by decide +kernel, by decide +kernel⟩, by decide +kernel⟩
theorem ckX5_does : Cond.code MX5_does.1 MX5_does.2.1 MX5_does.2.2.1 MX5_does.2.2.2 ∈ lw_tbl ∧ Cond.initialized MX5_does.1.cls ∈ lw_tbl ∧ (MX5_does.1.cls ≠ "java/lang/invoke/MethodHandle" ∧ MX5_does.1.cls ≠ "java/lang/invoke/VarHandle") ∧ (parseMethodDescriptor MX5_does.1.desc).map (fun d => d.parameters.length) = some 1 := ⟨List.mem_of_getElem? (i := 763) (by decide +kernel), List.mem_of_getElem? (i := 95) (by decide +kernel), ⟨by decide +kernel, by decide +kernel⟩, by decide +kernel⟩
theorem ckX5_play : Cond.code MX5_play.1 MX5_play.2.1 MX5_play.2.2.1 MX5_play.2.2.2 ∈ lw_tbl ∧ Cond.initialized MX5_play.1.cls ∈ lw_tbl ∧ (MX5_play.1.cls ≠ "java/lang/invoke/MethodHandle" ∧ MX5_play.1.cls ≠ "java/lang/invoke/VarHandle") ∧ (parseMethodDescriptor MX5_play.1.desc).map (fun d => d.parameters.length) = some 0 := ⟨List.mem_of_getElem? (i := 707) (by decide +kernel), List.mem_of_getElem? (i := 95) (by decide +kernel), ⟨by decide +kernel, by decide +kernel⟩, by decide +kernel⟩
theorem ckX5_raise : Cond.code MX5_raise.1 MX5_raise.2.1 MX5_raise.2.2.1 MX5_raise.2.2.2 ∈ lw_tbl ∧ Cond.initialized MX5_raise.1.cls ∈ lw_tbl ∧ (MX5_raise.1.cls ≠ "java/lang/invoke/MethodHandle" ∧ MX5_raise.1.cls ≠ "java/lang/invoke/VarHandle") ∧ (parseMethodDescriptor MX5_raise.1.desc).map (fun d => d.parameters.length) = some 0 := ⟨List.mem_of_getElem? (i := 771) (by decide +kernel), List.mem_of_getElem? (i := 95) (by decide +kernel), ⟨by decide +kernel, by decide +kernel⟩, by decide +kernel⟩
theorem ckX5_isNear : Cond.code MX5_isNear.1 MX5_isNear.2.1 MX5_isNear.2.2.1 MX5_isNear.2.2.2 ∈ lw_tbl ∧ Cond.initialized MX5_isNear.1.cls ∈ lw_tbl ∧ (MX5_isNear.1.cls ≠ "java/lang/invoke/MethodHandle" ∧ MX5_isNear.1.cls ≠ "java/lang/invoke/VarHandle") ∧ (parseMethodDescriptor MX5_isNear.1.desc).map (fun d => d.parameters.length) = some 0 := ⟨List.mem_of_getElem? (i := 795) (by decide +kernel), List.mem_of_getElem? (i := 95) (by decide +kernel), ⟨by decide +kernel, by decide +kernel⟩, by decide +kernel⟩
theorem ckX5_keep : Cond.code MX5_keep.1 MX5_keep.2.1 MX5_keep.2.2.1 MX5_keep.2.2.2 ∈ lw_tbl ∧ Cond.initialized MX5_keep.1.cls ∈ lw_tbl ∧ (MX5_keep.1.cls ≠ "java/lang/invoke/MethodHandle" ∧ MX5_keep.1.cls ≠ "java/lang/invoke/VarHandle") ∧ (parseMethodDescriptor MX5_keep.1.desc).map (fun d => d.parameters.length) = some 0 := ⟨List.mem_of_getElem? (i := 787) (by decide +kernel), List.mem_of_getElem? (i := 95) (by decide +kernel), ⟨by decide +kernel, by decide +kernel⟩, by decide +kernel⟩
theorem ckX5_load : Cond.code MX5_load.1 MX5_load.2.1 MX5_load.2.2.1 MX5_load.2.2.2 ∈ lw_tbl ∧ Cond.initialized MX5_load.1.cls ∈ lw_tbl ∧ (MX5_load.1.cls ≠ "java/lang/invoke/MethodHandle" ∧ MX5_load.1.cls ≠ "java/lang/invoke/VarHandle") ∧ (parseMethodDescriptor MX5_load.1.desc).map (fun d => d.parameters.length) = some 1 := ⟨List.mem_of_getElem? (i := 843) (by decide +kernel), List.mem_of_getElem? (i := 95) (by decide +kernel), ⟨by decide +kernel, by decide +kernel⟩, by decide +kernel⟩
theorem ckX5_basedOn : Cond.code MX5_basedOn.1 MX5_basedOn.2.1 MX5_basedOn.2.2.1 MX5_basedOn.2.2.2 ∈ lw_tbl ∧ Cond.initialized MX5_basedOn.1.cls ∈ lw_tbl ∧ (MX5_basedOn.1.cls ≠ "java/lang/invoke/MethodHandle" ∧ MX5_basedOn.1.cls ≠ "java/lang/invoke/VarHandle") ∧ (parseMethodDescriptor MX5_basedOn.1.desc).map (fun d => d.parameters.length) = some 1 := ⟨List.mem_of_getElem? (i := 851) (by decide +kernel), List.mem_of_getElem? (i := 95) (by decide +kernel), ⟨by decide +kernel, by decide +kernel⟩, by decide +kernel⟩
theorem ckX5_drop : Cond.code MX5_drop.1 MX5_drop.2.1 MX5_drop.2.2.1 MX5_drop.2.2.2 ∈ lw_tbl ∧ Cond.initialized MX5_drop.1.cls ∈ lw_tbl ∧ (MX5_drop.1.cls ≠ "java/lang/invoke/MethodHandle" ∧ MX5_drop.1.cls ≠ "java/lang/invoke/VarHandle") ∧ (parseMethodDescriptor MX5_drop.1.desc).map (fun d => d.parameters.length) = some 2 := ⟨List.mem_of_getElem? (i := 847) (by decide +kernel), List.mem_of_getElem? (i := 95) (by decide +kernel), ⟨by decide +kernel, by decide +kernel⟩, by decide +kernel⟩
theorem ckX5_alter : Cond.code MX5_alter.1 MX5_alter.2.1 MX5_alter.2.2.1 MX5_alter.2.2.2 ∈ lw_tbl ∧ Cond.initialized MX5_alter.1.cls ∈ lw_tbl ∧ (MX5_alter.1.cls ≠ "java/lang/invoke/MethodHandle" ∧ MX5_alter.1.cls ≠ "java/lang/invoke/VarHandle") ∧ (parseMethodDescriptor MX5_alter.1.desc).map (fun d => d.parameters.length) = some 3 := ⟨List.mem_of_getElem? (i := 855) (by decide +kernel), List.mem_of_getElem? (i := 95) (by decide +kernel), ⟨by decide +kernel, by decide +kernel⟩, by decide +kernel⟩
theorem ckX5_weight : Cond.code MX5_weight.1 MX5_weight.2.1 MX5_weight.2.2.1 MX5_weight.2.2.2 ∈ lw_tbl ∧ Cond.initialized MX5_weight.1.cls ∈ lw_tbl ∧ (MX5_weight.1.cls ≠ "java/lang/invoke/MethodHandle" ∧ MX5_weight.1.cls ≠ "java/lang/invoke/VarHandle") ∧ (parseMethodDescriptor MX5_weight.1.desc).map (fun d => d.parameters.length) = some 1 := ⟨List.mem_of_getElem? (i := 867) (by decide +kernel), List.mem_of_getElem? (i := 95) (by decide +kernel), ⟨by decide +kernel, by decide +kernel⟩, by decide +kernel⟩
theorem ckX5_weights : Cond.code MX5_weights.1 MX5_weights.2.1 MX5_weights.2.2.1 MX5_weights.2.2.2 ∈ lw_tbl ∧ Cond.initialized MX5_weights.1.cls ∈ lw_tbl ∧ (MX5_weights.1.cls ≠ "java/lang/invoke/MethodHandle" ∧ MX5_weights.1.cls ≠ "java/lang/invoke/VarHandle") ∧ (parseMethodDescriptor MX5_weights.1.desc).map (fun d => d.parameters.length) = some 0 := ⟨List.mem_of_getElem? (i := 863) (by decide +kernel), List.mem_of_getElem? (i := 95) (by decide +kernel), ⟨by decide +kernel, by decide +kernel⟩, by decide +kernel⟩
theorem ckX5_nearestBase : Cond.code MX5_nearestBase.1 MX5_nearestBase.2.1 MX5_nearestBase.2.2.1 MX5_nearestBase.2.2.2 ∈ lw_tbl ∧ Cond.initialized MX5_nearestBase.1.cls ∈ lw_tbl ∧ (MX5_nearestBase.1.cls ≠ "java/lang/invoke/MethodHandle" ∧ MX5_nearestBase.1.cls ≠ "java/lang/invoke/VarHandle") ∧ (parseMethodDescriptor MX5_nearestBase.1.desc).map (fun d => d.parameters.length) = some 1 := ⟨List.mem_of_getElem? (i := 871) (by decide +kernel), List.mem_of_getElem? (i := 95) (by decide +kernel), ⟨by decide +kernel, by decide +kernel⟩, by decide +kernel⟩
theorem ckX5_pack : Cond.code MX5_pack.1 MX5_pack.2.1 MX5_pack.2.2.1 MX5_pack.2.2.2 ∈ lw_tbl ∧ Cond.initialized MX5_pack.1.cls ∈ lw_tbl ∧ (MX5_pack.1.cls ≠ "java/lang/invoke/MethodHandle" ∧ MX5_pack.1.cls ≠ "java/lang/invoke/VarHandle") ∧ (parseMethodDescriptor MX5_pack.1.desc).map (fun d => d.parameters.length) = some 0 := ⟨List.mem_of_getElem? (i := 859) (by decide +kernel), List.mem_of_getElem? (i := 95) (by decide +kernel), ⟨by decide +kernel, by decide +kernel⟩, by decide +kernel⟩
theorem ckX5_set : Cond.code MX5_set.1 MX5_set.2.1 MX5_set.2.2.1 MX5_set.2.2.2 ∈ lw_tbl ∧ Cond.initialized MX5_set.1.cls ∈ lw_tbl ∧ (MX5_set.1.cls ≠ "java/lang/invoke/MethodHandle" ∧ MX5_set.1.cls ≠ "java/lang/invoke/VarHandle") ∧ (parseMethodDescriptor MX5_set.1.desc).map (fun d => d.parameters.length) = some 2 := ⟨List.mem_of_getElem? (i := 879) (by decide +kernel), List.mem_of_getElem? (i := 95) (by decide +kernel), ⟨by decide +kernel, by decide +kernel⟩, by decide +kernel⟩
theorem ckX5_value : Cond.code MX5_value.1 MX5_value.2.1 MX5_value.2.2.1 MX5_value.2.2.2 ∈ lw_tbl ∧ Cond.initialized MX5_value.1.cls ∈ lw_tbl ∧ (MX5_value.1.cls ≠ "java/lang/invoke/MethodHandle" ∧ MX5_value.1.cls ≠ "java/lang/invoke/VarHandle") ∧ (parseMethodDescriptor MX5_value.1.desc).map (fun d => d.parameters.length) = some 1 := ⟨List.mem_of_getElem? (i := 883) (by decide +kernel), List.mem_of_getElem? (i := 95) (by decide +kernel), ⟨by decide +kernel, by decide +kernel⟩, by decide +kernel⟩
theorem ckX5_part : Cond.code MX5_part.1 MX5_part.2.1 MX5_part.2.2.1 MX5_part.2.2.2 ∈ lw_tbl ∧ Cond.initialized MX5_part.1.cls ∈ lw_tbl ∧ (MX5_part.1.cls ≠ "java/lang/invoke/MethodHandle" ∧ MX5_part.1.cls ≠ "java/lang/invoke/VarHandle") ∧ (parseMethodDescriptor MX5_part.1.desc).map (fun d => d.parameters.length) = some 2 := ⟨List.mem_of_getElem? (i := 891) (by decide +kernel), List.mem_of_getElem? (i := 95) (by decide +kernel), ⟨by decide +kernel, by decide +kernel⟩, by decide +kernel⟩
theorem ckX5_kept : Cond.code MX5_kept.1 MX5_kept.2.1 MX5_kept.2.2.1 MX5_kept.2.2.2 ∈ lw_tbl ∧ Cond.initialized MX5_kept.1.cls ∈ lw_tbl ∧ (MX5_kept.1.cls ≠ "java/lang/invoke/MethodHandle" ∧ MX5_kept.1.cls ≠ "java/lang/invoke/VarHandle") ∧ (parseMethodDescriptor MX5_kept.1.desc).map (fun d => d.parameters.length) = some 2 := ⟨List.mem_of_getElem? (i := 887) (by decide +kernel), List.mem_of_getElem? (i := 95) (by decide +kernel), ⟨by decide +kernel, by decide +kernel⟩, by decide +kernel⟩
theorem ckX5_entry : Cond.code MX5_entry.1 MX5_entry.2.1 MX5_entry.2.2.1 MX5_entry.2.2.2 ∈ lw_tbl ∧ Cond.initialized MX5_entry.1.cls ∈ lw_tbl ∧ (MX5_entry.1.cls ≠ "java/lang/invoke/MethodHandle" ∧ MX5_entry.1.cls ≠ "java/lang/invoke/VarHandle") ∧ (parseMethodDescriptor MX5_entry.1.desc).map (fun d => d.parameters.length) = some 3 := ⟨List.mem_of_getElem? (i := 895) (by decide +kernel), List.mem_of_getElem? (i := 95) (by decide +kernel), ⟨by decide +kernel, by decide +kernel⟩, by decide +kernel⟩
theorem ckX5_read : Cond.code MX5_read.1 MX5_read.2.1 MX5_read.2.2.1 MX5_read.2.2.2 ∈ lw_tbl ∧ Cond.initialized MX5_read.1.cls ∈ lw_tbl ∧ (MX5_read.1.cls ≠ "java/lang/invoke/MethodHandle" ∧ MX5_read.1.cls ≠ "java/lang/invoke/VarHandle") ∧ (parseMethodDescriptor MX5_read.1.desc).map (fun d => d.parameters.length) = some 3 := ⟨List.mem_of_getElem? (i := 899) (by decide +kernel), List.mem_of_getElem? (i := 95) (by decide +kernel), ⟨by decide +kernel, by decide +kernel⟩, by decide +kernel⟩
theorem ckX5_cause : Cond.code MX5_cause.1 MX5_cause.2.1 MX5_cause.2.2.1 MX5_cause.2.2.2 ∈ lw_tbl ∧ Cond.initialized MX5_cause.1.cls ∈ lw_tbl ∧ (MX5_cause.1.cls ≠ "java/lang/invoke/MethodHandle" ∧ MX5_cause.1.cls ≠ "java/lang/invoke/VarHandle") ∧ (parseMethodDescriptor MX5_cause.1.desc).map (fun d => d.parameters.length) = some 3 := ⟨List.mem_of_getElem? (i := 903) (by decide +kernel), List.mem_of_getElem? (i := 95) (by decide +kernel), ⟨by decide +kernel, by decide +kernel⟩, by decide +kernel⟩
theorem ckX5_apart : Cond.code MX5_apart.1 MX5_apart.2.1 MX5_apart.2.2.1 MX5_apart.2.2.2 ∈ lw_tbl ∧ Cond.initialized MX5_apart.1.cls ∈ lw_tbl ∧ (MX5_apart.1.cls ≠ "java/lang/invoke/MethodHandle" ∧ MX5_apart.1.cls ≠ "java/lang/invoke/VarHandle") ∧ (parseMethodDescriptor MX5_apart.1.desc).map (fun d => d.parameters.length) = some 2 := ⟨List.mem_of_getElem? (i := 907) (by decide +kernel), List.mem_of_getElem? (i := 95) (by decide +kernel), ⟨by decide +kernel, by decide +kernel⟩, by decide +kernel⟩
theorem ckX5_isInChain : Cond.code MX5_isInChain.1 MX5_isInChain.2.1 MX5_isInChain.2.2.1 MX5_isInChain.2.2.2 ∈ lw_tbl ∧ Cond.initialized MX5_isInChain.1.cls ∈ lw_tbl ∧ (MX5_isInChain.1.cls ≠ "java/lang/invoke/MethodHandle" ∧ MX5_isInChain.1.cls ≠ "java/lang/invoke/VarHandle") ∧ (parseMethodDescriptor MX5_isInChain.1.desc).map (fun d => d.parameters.length) = some 1 := ⟨List.mem_of_getElem? (i := 915) (by decide +kernel), List.mem_of_getElem? (i := 95) (by decide +kernel), ⟨by decide +kernel, by decide +kernel⟩, by decide +kernel⟩
theorem ckX5_fork : Cond.code MX5_fork.1 MX5_fork.2.1 MX5_fork.2.2.1 MX5_fork.2.2.2 ∈ lw_tbl ∧ Cond.initialized MX5_fork.1.cls ∈ lw_tbl ∧ (MX5_fork.1.cls ≠ "java/lang/invoke/MethodHandle" ∧ MX5_fork.1.cls ≠ "java/lang/invoke/VarHandle") ∧ (parseMethodDescriptor MX5_fork.1.desc).map (fun d => d.parameters.length) = some 2 := ⟨List.mem_of_getElem? (i := 911) (by decide +kernel), List.mem_of_getElem? (i := 95) (by decide +kernel), ⟨by decide +kernel, by decide +kernel⟩, by decide +kernel⟩
theorem ckX5_nearest : Cond.code MX5_nearest.1 MX5_nearest.2.1 MX5_nearest.2.2.1 MX5_nearest.2.2.2 ∈ lw_tbl ∧ Cond.initialized MX5_nearest.1.cls ∈ lw_tbl ∧ (MX5_nearest.1.cls ≠ "java/lang/invoke/MethodHandle" ∧ MX5_nearest.1.cls ≠ "java/lang/invoke/VarHandle") ∧ (parseMethodDescriptor MX5_nearest.1.desc).map (fun d => d.parameters.length) = some 0 := ⟨List.mem_of_getElem? (i := 919) (by decide +kernel), List.mem_of_getElem? (i := 95) (by decide +kernel), ⟨by decide +kernel, by decide +kernel⟩, by decide +kernel⟩
theorem ckX5_counts : Cond.code MX5_counts.1 MX5_counts.2.1 MX5_counts.2.2.1 MX5_counts.2.2.2 ∈ lw_tbl ∧ Cond.initialized MX5_counts.1.cls ∈ lw_tbl ∧ (MX5_counts.1.cls ≠ "java/lang/invoke/MethodHandle" ∧ MX5_counts.1.cls ≠ "java/lang/invoke/VarHandle") ∧ (parseMethodDescriptor MX5_counts.1.desc).map (fun d => d.parameters.length) = some 1 := ⟨List.mem_of_getElem? (i := 927) (by decide +kernel), List.mem_of_getElem? (i := 95) (by decide +kernel), ⟨by decide +kernel, by decide +kernel⟩, by decide +kernel⟩
theorem ckX5_longest : Cond.code MX5_longest.1 MX5_longest.2.1 MX5_longest.2.2.1 MX5_longest.2.2.2 ∈ lw_tbl ∧ Cond.initialized MX5_longest.1.cls ∈ lw_tbl ∧ (MX5_longest.1.cls ≠ "java/lang/invoke/MethodHandle" ∧ MX5_longest.1.cls ≠ "java/lang/invoke/VarHandle") ∧ (parseMethodDescriptor MX5_longest.1.desc).map (fun d => d.parameters.length) = some 0 := ⟨List.mem_of_getElem? (i := 931) (by decide +kernel), List.mem_of_getElem? (i := 95) (by decide +kernel), ⟨by decide +kernel, by decide +kernel⟩, by decide +kernel⟩
theorem ckX5_count : Cond.code MX5_count.1 MX5_count.2.1 MX5_count.2.2.1 MX5_count.2.2.2 ∈ lw_tbl ∧ Cond.initialized MX5_count.1.cls ∈ lw_tbl ∧ (MX5_count.1.cls ≠ "java/lang/invoke/MethodHandle" ∧ MX5_count.1.cls ≠ "java/lang/invoke/VarHandle") ∧ (parseMethodDescriptor MX5_count.1.desc).map (fun d => d.parameters.length) = some 1 := ⟨List.mem_of_getElem? (i := 923) (by decide +kernel), List.mem_of_getElem? (i := 95) (by decide +kernel), ⟨by decide +kernel, by decide +kernel⟩, by decide +kernel⟩
theorem ckX5_mixes : Cond.code MX5_mixes.1 MX5_mixes.2.1 MX5_mixes.2.2.1 MX5_mixes.2.2.2 ∈ lw_tbl ∧ Cond.initialized MX5_mixes.1.cls ∈ lw_tbl ∧ (MX5_mixes.1.cls ≠ "java/lang/invoke/MethodHandle" ∧ MX5_mixes.1.cls ≠ "java/lang/invoke/VarHandle") ∧ (parseMethodDescriptor MX5_mixes.1.desc).map (fun d => d.parameters.length) = some 1 := ⟨List.mem_of_getElem? (i := 941) (by decide +kernel), List.mem_of_getElem? (i := 95) (by decide +kernel), ⟨by decide +kernel, by decide +kernel⟩, by decide +kernel⟩
theorem ckX5_mixesKept : Cond.code MX5_mixesKept.1 MX5_mixesKept.2.1 MX5_mixesKept.2.2.1 MX5_mixesKept.2.2.2 ∈ lw_tbl ∧ Cond.initialized MX5_mixesKept.1.cls ∈ lw_tbl ∧ (MX5_mixesKept.1.cls ≠ "java/lang/invoke/MethodHandle" ∧ MX5_mixesKept.1.cls ≠ "java/lang/invoke/VarHandle") ∧ (parseMethodDescriptor MX5_mixesKept.1.desc).map (fun d => d.parameters.length) = some 1 := ⟨List.mem_of_getElem? (i := 946) (by decide +kernel), List.mem_of_getElem? (i := 95) (by decide +kernel), ⟨by decide +kernel, by decide +kernel⟩, by decide +kernel⟩
theorem ckX5_digest : Cond.code MX5_digest.1 MX5_digest.2.1 MX5_digest.2.2.1 MX5_digest.2.2.2 ∈ lw_tbl ∧ Cond.initialized MX5_digest.1.cls ∈ lw_tbl ∧ (MX5_digest.1.cls ≠ "java/lang/invoke/MethodHandle" ∧ MX5_digest.1.cls ≠ "java/lang/invoke/VarHandle") ∧ (parseMethodDescriptor MX5_digest.1.desc).map (fun d => d.parameters.length) = some 0 := ⟨List.mem_of_getElem? (i := 935) (by decide +kernel), List.mem_of_getElem? (i := 95) (by decide +kernel), ⟨by decide +kernel, by decide +kernel⟩, by decide +kernel⟩
theorem clL_9 : sv_cI RL 9 MX4_init 0 := ⟨⟨ckX4_init.1, ckX4_init.2.1, ckX4_init.2.2.1, ckX4_init.2.2.2, Or.inl (List.mem_of_getElem? (i := 104) (by decide +kernel))⟩, List.mem_of_getElem? (i := 105) (by decide +kernel), rfl, rfl⟩
theorem clX4_9 : sv_cI RX4 9 MX1_init 0 := ⟨⟨ckX1_init.1, ckX1_init.2.1, ckX1_init.2.2.1, ckX1_init.2.2.2, Or.inr ⟨"StateVault", List.mem_of_getElem? (i := 112) (by decide +kernel)⟩⟩, List.mem_of_getElem? (i := 113) (by decide +kernel), rfl, rfl⟩
theorem clX1_37 : sv_cI RX1 37 MX0_init 0 := ⟨⟨ckX0_init.1, ckX0_init.2.1, ckX0_init.2.2.1, ckX0_init.2.2.2, Or.inr ⟨"StateVault", List.mem_of_getElem? (i := 119) (by decide +kernel)⟩⟩, List.mem_of_getElem? (i := 120) (by decide +kernel), rfl, rfl⟩
theorem clX4_26 : sv_cI RX4 26 MX3_init 0 := ⟨⟨ckX3_init.1, ckX3_init.2.1, ckX3_init.2.2.1, ckX3_init.2.2.2, Or.inr ⟨"StateVault", List.mem_of_getElem? (i := 195) (by decide +kernel)⟩⟩, List.mem_of_getElem? (i := 196) (by decide +kernel), rfl, rfl⟩
theorem clX4_33 : sv_cI RX4 33 MX2_init 0 := ⟨⟨ckX2_init.1, ckX2_init.2.1, ckX2_init.2.2.1, ckX2_init.2.2.2, Or.inr ⟨"StateVault", List.mem_of_getElem? (i := 223) (by decide +kernel)⟩⟩, List.mem_of_getElem? (i := 224) (by decide +kernel), rfl, rfl⟩
theorem clL_13 : sv_cV RL 13 MX4_type 1 := ⟨⟨ckX4_type.1, ckX4_type.2.1, ckX4_type.2.2.1, ckX4_type.2.2.2, Or.inl (List.mem_of_getElem? (i := 260) (by decide +kernel))⟩, List.mem_of_getElem? (i := 261) (by decide +kernel), List.mem_of_getElem? (i := 262) (by decide +kernel)⟩
theorem clL_18 : sv_cV RL 18 MX4_clear 0 := ⟨⟨ckX4_clear.1, ckX4_clear.2.1, ckX4_clear.2.2.1, ckX4_clear.2.2.2, Or.inl (List.mem_of_getElem? (i := 264) (by decide +kernel))⟩, List.mem_of_getElem? (i := 265) (by decide +kernel), List.mem_of_getElem? (i := 266) (by decide +kernel)⟩
theorem clL_23 : sv_cV RL 23 MX4_play 0 := ⟨⟨ckX4_play.1, ckX4_play.2.1, ckX4_play.2.2.1, ckX4_play.2.2.2, Or.inl (List.mem_of_getElem? (i := 268) (by decide +kernel))⟩, List.mem_of_getElem? (i := 269) (by decide +kernel), List.mem_of_getElem? (i := 270) (by decide +kernel)⟩
theorem clX4_57 : sv_cS RX4 57 MX4_sizeOf 1 := ⟨⟨ckX4_sizeOf.1, ckX4_sizeOf.2.1, ckX4_sizeOf.2.2.1, ckX4_sizeOf.2.2.2, Or.inl (List.mem_of_getElem? (i := 272) (by decide +kernel))⟩, List.mem_of_getElem? (i := 273) (by decide +kernel)⟩
theorem clX4_61 : sv_cV RX4 61 MX3_run 2 := ⟨⟨ckX3_run.1, ckX3_run.2.1, ckX3_run.2.2.1, ckX3_run.2.2.2, Or.inr ⟨"StateVault", List.mem_of_getElem? (i := 275) (by decide +kernel)⟩⟩, List.mem_of_getElem? (i := 277) (by decide +kernel), List.mem_of_getElem? (i := 0) (by decide +kernel)⟩
theorem clX3_37 : sv_cV RX3 37 MX3_skipBlanks 0 := ⟨⟨ckX3_skipBlanks.1, ckX3_skipBlanks.2.1, ckX3_skipBlanks.2.2.1, ckX3_skipBlanks.2.2.2, Or.inl (List.mem_of_getElem? (i := 282) (by decide +kernel))⟩, List.mem_of_getElem? (i := 284) (by decide +kernel), List.mem_of_getElem? (i := 1) (by decide +kernel)⟩
theorem clX3_40 : sv_cV RX3 40 MX3_takeWord 0 := ⟨⟨ckX3_takeWord.1, ckX3_takeWord.2.1, ckX3_takeWord.2.2.1, ckX3_takeWord.2.2.2, Or.inl (List.mem_of_getElem? (i := 286) (by decide +kernel))⟩, List.mem_of_getElem? (i := 288) (by decide +kernel), List.mem_of_getElem? (i := 2) (by decide +kernel)⟩
theorem clX3_85 : sv_cV RX3 85 MX3_isLetterNext 0 := ⟨⟨ckX3_isLetterNext.1, ckX3_isLetterNext.2.1, ckX3_isLetterNext.2.2.1, ckX3_isLetterNext.2.2.2, Or.inl (List.mem_of_getElem? (i := 290) (by decide +kernel))⟩, List.mem_of_getElem? (i := 292) (by decide +kernel), List.mem_of_getElem? (i := 3) (by decide +kernel)⟩
theorem clX3_89 : sv_cV RX3 89 MX3_wordAt 1 := ⟨⟨ckX3_wordAt.1, ckX3_wordAt.2.1, ckX3_wordAt.2.2.1, ckX3_wordAt.2.2.2, Or.inl (List.mem_of_getElem? (i := 294) (by decide +kernel))⟩, List.mem_of_getElem? (i := 296) (by decide +kernel), List.mem_of_getElem? (i := 4) (by decide +kernel)⟩
theorem clX3_97 : sv_cV RX3 97 MX3_isSpelled 2 := ⟨⟨ckX3_isSpelled.1, ckX3_isSpelled.2.1, ckX3_isSpelled.2.2.1, ckX3_isSpelled.2.2.2, Or.inl (List.mem_of_getElem? (i := 299) (by decide +kernel))⟩, List.mem_of_getElem? (i := 301) (by decide +kernel), List.mem_of_getElem? (i := 5) (by decide +kernel)⟩
theorem clX3_92 : sv_cV RX3 92 MX3_failAt 1 := ⟨⟨ckX3_failAt.1, ckX3_failAt.2.1, ckX3_failAt.2.2.1, ckX3_failAt.2.2.2, Or.inl (List.mem_of_getElem? (i := 355) (by decide +kernel))⟩, List.mem_of_getElem? (i := 357) (by decide +kernel), List.mem_of_getElem? (i := 6) (by decide +kernel)⟩
theorem clX3_44 : sv_cV RX3 44 MX3_runCommand 1 := ⟨⟨ckX3_runCommand.1, ckX3_runCommand.2.1, ckX3_runCommand.2.2.1, ckX3_runCommand.2.2.2, Or.inl (List.mem_of_getElem? (i := 359) (by decide +kernel))⟩, List.mem_of_getElem? (i := 361) (by decide +kernel), List.mem_of_getElem? (i := 7) (by decide +kernel)⟩
theorem clX3_48 : sv_cV RX3 48 MX3_runSet 0 := ⟨⟨ckX3_runSet.1, ckX3_runSet.2.1, ckX3_runSet.2.2.1, ckX3_runSet.2.2.2, Or.inl (List.mem_of_getElem? (i := 363) (by decide +kernel))⟩, List.mem_of_getElem? (i := 365) (by decide +kernel), List.mem_of_getElem? (i := 8) (by decide +kernel)⟩
theorem clX3_63 : sv_cV RX3 63 MX3_takeIndex 1 := ⟨⟨ckX3_takeIndex.1, ckX3_takeIndex.2.1, ckX3_takeIndex.2.2.1, ckX3_takeIndex.2.2.2, Or.inl (List.mem_of_getElem? (i := 367) (by decide +kernel))⟩, List.mem_of_getElem? (i := 369) (by decide +kernel), List.mem_of_getElem? (i := 9) (by decide +kernel)⟩
theorem clX3_117 : sv_cV RX3 117 MX3_takeDigits 0 := ⟨⟨ckX3_takeDigits.1, ckX3_takeDigits.2.1, ckX3_takeDigits.2.2.1, ckX3_takeDigits.2.2.2, Or.inl (List.mem_of_getElem? (i := 371) (by decide +kernel))⟩, List.mem_of_getElem? (i := 373) (by decide +kernel), List.mem_of_getElem? (i := 10) (by decide +kernel)⟩
theorem clX3_120 : sv_cV RX3 120 MX3_isDigitNext 0 := ⟨⟨ckX3_isDigitNext.1, ckX3_isDigitNext.2.1, ckX3_isDigitNext.2.2.1, ckX3_isDigitNext.2.2.2, Or.inl (List.mem_of_getElem? (i := 375) (by decide +kernel))⟩, List.mem_of_getElem? (i := 377) (by decide +kernel), List.mem_of_getElem? (i := 11) (by decide +kernel)⟩
theorem clX3_67 : sv_cV RX3 67 MX3_takeNumber 0 := ⟨⟨ckX3_takeNumber.1, ckX3_takeNumber.2.1, ckX3_takeNumber.2.2.1, ckX3_takeNumber.2.2.2, Or.inl (List.mem_of_getElem? (i := 379) (by decide +kernel))⟩, List.mem_of_getElem? (i := 381) (by decide +kernel), List.mem_of_getElem? (i := 12) (by decide +kernel)⟩
theorem clX3_70 : sv_cV RX3 70 MX3_takeSemicolon 0 := ⟨⟨ckX3_takeSemicolon.1, ckX3_takeSemicolon.2.1, ckX3_takeSemicolon.2.2.1, ckX3_takeSemicolon.2.2.2, Or.inl (List.mem_of_getElem? (i := 383) (by decide +kernel))⟩, List.mem_of_getElem? (i := 385) (by decide +kernel), List.mem_of_getElem? (i := 13) (by decide +kernel)⟩
theorem clX3_123 : sv_cV RX3 123 MX3_isNext 1 := ⟨⟨ckX3_isNext.1, ckX3_isNext.2.1, ckX3_isNext.2.2.1, ckX3_isNext.2.2.2, Or.inl (List.mem_of_getElem? (i := 387) (by decide +kernel))⟩, List.mem_of_getElem? (i := 389) (by decide +kernel), List.mem_of_getElem? (i := 14) (by decide +kernel)⟩
theorem clX3_51 : sv_cV RX3 51 MX3_runAdd 0 := ⟨⟨ckX3_runAdd.1, ckX3_runAdd.2.1, ckX3_runAdd.2.2.1, ckX3_runAdd.2.2.2, Or.inl (List.mem_of_getElem? (i := 391) (by decide +kernel))⟩, List.mem_of_getElem? (i := 393) (by decide +kernel), List.mem_of_getElem? (i := 15) (by decide +kernel)⟩
theorem clX3_73 : sv_cV RX3 73 MX3_takeAmount 0 := ⟨⟨ckX3_takeAmount.1, ckX3_takeAmount.2.1, ckX3_takeAmount.2.2.1, ckX3_takeAmount.2.2.2, Or.inl (List.mem_of_getElem? (i := 395) (by decide +kernel))⟩, List.mem_of_getElem? (i := 397) (by decide +kernel), List.mem_of_getElem? (i := 16) (by decide +kernel)⟩
theorem clX3_54 : sv_cV RX3 54 MX3_runSwap 0 := ⟨⟨ckX3_runSwap.1, ckX3_runSwap.2.1, ckX3_runSwap.2.2.1, ckX3_runSwap.2.2.2, Or.inl (List.mem_of_getElem? (i := 405) (by decide +kernel))⟩, List.mem_of_getElem? (i := 407) (by decide +kernel), List.mem_of_getElem? (i := 17) (by decide +kernel)⟩
theorem clX3_57 : sv_cV RX3 57 MX3_runFill 0 := ⟨⟨ckX3_runFill.1, ckX3_runFill.2.1, ckX3_runFill.2.2.1, ckX3_runFill.2.2.2, Or.inl (List.mem_of_getElem? (i := 409) (by decide +kernel))⟩, List.mem_of_getElem? (i := 411) (by decide +kernel), List.mem_of_getElem? (i := 18) (by decide +kernel)⟩
theorem clX3_60 : sv_cV RX3 60 MX3_runTurn 0 := ⟨⟨ckX3_runTurn.1, ckX3_runTurn.2.1, ckX3_runTurn.2.2.1, ckX3_runTurn.2.2.2, Or.inl (List.mem_of_getElem? (i := 413) (by decide +kernel))⟩, List.mem_of_getElem? (i := 415) (by decide +kernel), List.mem_of_getElem? (i := 19) (by decide +kernel)⟩
theorem clX4_65 : sv_cV RX4 65 MX4_remember 0 := ⟨⟨ckX4_remember.1, ckX4_remember.2.1, ckX4_remember.2.2.1, ckX4_remember.2.2.2, Or.inl (List.mem_of_getElem? (i := 417) (by decide +kernel))⟩, List.mem_of_getElem? (i := 419) (by decide +kernel), List.mem_of_getElem? (i := 20) (by decide +kernel)⟩
theorem clX4_157 : sv_cV RX4 157 MX1_copyFrom 1 := ⟨⟨ckX1_copyFrom.1, ckX1_copyFrom.2.1, ckX1_copyFrom.2.2.1, ckX1_copyFrom.2.2.2, Or.inr ⟨"StateVault", List.mem_of_getElem? (i := 421) (by decide +kernel)⟩⟩, List.mem_of_getElem? (i := 423) (by decide +kernel), List.mem_of_getElem? (i := 21) (by decide +kernel)⟩
theorem clX1_44 : sv_cV RX1 44 MX0_copyKept 1 := ⟨⟨ckX0_copyKept.1, ckX0_copyKept.2.1, ckX0_copyKept.2.2.1, ckX0_copyKept.2.2.2, Or.inr ⟨"StateVault", List.mem_of_getElem? (i := 426) (by decide +kernel)⟩⟩, List.mem_of_getElem? (i := 428) (by decide +kernel), List.mem_of_getElem? (i := 22) (by decide +kernel)⟩
theorem clL_27 : sv_cV RL 27 MX4_raise 0 := ⟨⟨ckX4_raise.1, ckX4_raise.2.1, ckX4_raise.2.2.1, ckX4_raise.2.2.2, Or.inl (List.mem_of_getElem? (i := 433) (by decide +kernel))⟩, List.mem_of_getElem? (i := 434) (by decide +kernel), List.mem_of_getElem? (i := 435) (by decide +kernel)⟩
theorem clX4_75 : sv_cS RX4 75 MX4_raiseValues 3 := ⟨⟨ckX4_raiseValues.1, ckX4_raiseValues.2.1, ckX4_raiseValues.2.2.1, ckX4_raiseValues.2.2.2, Or.inl (List.mem_of_getElem? (i := 437) (by decide +kernel))⟩, List.mem_of_getElem? (i := 438) (by decide +kernel)⟩
theorem clL_31 : sv_cV RL 31 MX4_keep 0 := ⟨⟨ckX4_keep.1, ckX4_keep.2.1, ckX4_keep.2.2.1, ckX4_keep.2.2.2, Or.inl (List.mem_of_getElem? (i := 441) (by decide +kernel))⟩, List.mem_of_getElem? (i := 442) (by decide +kernel), List.mem_of_getElem? (i := 443) (by decide +kernel)⟩
theorem clX4_85 : sv_cV RX4 85 MX2_readAll 1 := ⟨⟨ckX2_readAll.1, ckX2_readAll.2.1, ckX2_readAll.2.2.1, ckX2_readAll.2.2.2, Or.inr ⟨"StateVault", List.mem_of_getElem? (i := 445) (by decide +kernel)⟩⟩, List.mem_of_getElem? (i := 447) (by decide +kernel), List.mem_of_getElem? (i := 23) (by decide +kernel)⟩
theorem clX2_26 : sv_cV RX2 26 MX2_readPlace 2 := ⟨⟨ckX2_readPlace.1, ckX2_readPlace.2.1, ckX2_readPlace.2.2.1, ckX2_readPlace.2.2.2, Or.inl (List.mem_of_getElem? (i := 449) (by decide +kernel))⟩, List.mem_of_getElem? (i := 451) (by decide +kernel), List.mem_of_getElem? (i := 24) (by decide +kernel)⟩
theorem clX2_39 : sv_cV RX2 39 MX1_placeOf 1 := ⟨⟨ckX1_placeOf.1, ckX1_placeOf.2.1, ckX1_placeOf.2.2.1, ckX1_placeOf.2.2.2, Or.inr ⟨"StateVault", List.mem_of_getElem? (i := 453) (by decide +kernel)⟩⟩, List.mem_of_getElem? (i := 455) (by decide +kernel), List.mem_of_getElem? (i := 25) (by decide +kernel)⟩
theorem clX2_52 : sv_cS RX2 52 MX4_raiseValues 3 := ⟨⟨ckX4_raiseValues.1, ckX4_raiseValues.2.1, ckX4_raiseValues.2.2.1, ckX4_raiseValues.2.2.2, Or.inr ⟨"StateVault", List.mem_of_getElem? (i := 458) (by decide +kernel)⟩⟩, List.mem_of_getElem? (i := 438) (by decide +kernel)⟩
theorem clX2_63 : sv_cS RX2 63 MX4_sumOf 2 := ⟨⟨ckX4_sumOf.1, ckX4_sumOf.2.1, ckX4_sumOf.2.2.1, ckX4_sumOf.2.2.2, Or.inr ⟨"StateVault", List.mem_of_getElem? (i := 459) (by decide +kernel)⟩⟩, List.mem_of_getElem? (i := 460) (by decide +kernel)⟩
theorem clX4_99 : sv_cS RX4 99 MX4_sumOf 2 := ⟨⟨ckX4_sumOf.1, ckX4_sumOf.2.1, ckX4_sumOf.2.2.1, ckX4_sumOf.2.2.2, Or.inl (List.mem_of_getElem? (i := 462) (by decide +kernel))⟩, List.mem_of_getElem? (i := 460) (by decide +kernel)⟩
theorem clX4_105 : sv_cV RX4 105 MX4_baseForGame 0 := ⟨⟨ckX4_baseForGame.1, ckX4_baseForGame.2.1, ckX4_baseForGame.2.2.1, ckX4_baseForGame.2.2.2, Or.inl (List.mem_of_getElem? (i := 463) (by decide +kernel))⟩, List.mem_of_getElem? (i := 465) (by decide +kernel), List.mem_of_getElem? (i := 26) (by decide +kernel)⟩
theorem clX4_124 : sv_cV RX4 124 MX1_placeOf 1 := ⟨⟨ckX1_placeOf.1, ckX1_placeOf.2.1, ckX1_placeOf.2.2.1, ckX1_placeOf.2.2.2, Or.inr ⟨"StateVault", List.mem_of_getElem? (i := 467) (by decide +kernel)⟩⟩, List.mem_of_getElem? (i := 455) (by decide +kernel), List.mem_of_getElem? (i := 25) (by decide +kernel)⟩
theorem clX4_191 : sv_cV RX4 191 MX4_canBeBase 2 := ⟨⟨ckX4_canBeBase.1, ckX4_canBeBase.2.1, ckX4_canBeBase.2.2.1, ckX4_canBeBase.2.2.2, Or.inl (List.mem_of_getElem? (i := 468) (by decide +kernel))⟩, List.mem_of_getElem? (i := 470) (by decide +kernel), List.mem_of_getElem? (i := 27) (by decide +kernel)⟩
theorem clX4_195 : sv_cV RX4 195 MX1_linksOf 1 := ⟨⟨ckX1_linksOf.1, ckX1_linksOf.2.1, ckX1_linksOf.2.2.1, ckX1_linksOf.2.2.2, Or.inr ⟨"StateVault", List.mem_of_getElem? (i := 472) (by decide +kernel)⟩⟩, List.mem_of_getElem? (i := 474) (by decide +kernel), List.mem_of_getElem? (i := 28) (by decide +kernel)⟩
theorem clX1_58 : sv_cV RX1 58 MX1_baseOf 1 := ⟨⟨ckX1_baseOf.1, ckX1_baseOf.2.1, ckX1_baseOf.2.2.1, ckX1_baseOf.2.2.2, Or.inl (List.mem_of_getElem? (i := 476) (by decide +kernel))⟩, List.mem_of_getElem? (i := 478) (by decide +kernel), List.mem_of_getElem? (i := 29) (by decide +kernel)⟩
theorem clX1_51 : sv_cV RX1 51 MX1_placeOf 1 := ⟨⟨ckX1_placeOf.1, ckX1_placeOf.2.1, ckX1_placeOf.2.2.1, ckX1_placeOf.2.2.2, Or.inl (List.mem_of_getElem? (i := 480) (by decide +kernel))⟩, List.mem_of_getElem? (i := 455) (by decide +kernel), List.mem_of_getElem? (i := 25) (by decide +kernel)⟩
theorem clX4_170 : sv_cV RX4 170 MX4_distance 3 := ⟨⟨ckX4_distance.1, ckX4_distance.2.1, ckX4_distance.2.2.1, ckX4_distance.2.2.2, Or.inl (List.mem_of_getElem? (i := 481) (by decide +kernel))⟩, List.mem_of_getElem? (i := 483) (by decide +kernel), List.mem_of_getElem? (i := 30) (by decide +kernel)⟩
theorem clX4_113 : sv_cV RX4 113 MX4_raiseRead 3 := ⟨⟨ckX4_raiseRead.1, ckX4_raiseRead.2.1, ckX4_raiseRead.2.2.1, ckX4_raiseRead.2.2.2, Or.inl (List.mem_of_getElem? (i := 485) (by decide +kernel))⟩, List.mem_of_getElem? (i := 487) (by decide +kernel), List.mem_of_getElem? (i := 31) (by decide +kernel)⟩
theorem clX4_109 : sv_cV RX4 109 MX0_makeWhole 1 := ⟨⟨ckX0_makeWhole.1, ckX0_makeWhole.2.1, ckX0_makeWhole.2.2.1, ckX0_makeWhole.2.2.2, Or.inr ⟨"StateVault", List.mem_of_getElem? (i := 489) (by decide +kernel)⟩⟩, List.mem_of_getElem? (i := 491) (by decide +kernel), List.mem_of_getElem? (i := 32) (by decide +kernel)⟩
theorem clX0_40 : sv_cS RX0 40 MX4_sizeOf 1 := ⟨⟨ckX4_sizeOf.1, ckX4_sizeOf.2.1, ckX4_sizeOf.2.2.1, ckX4_sizeOf.2.2.2, Or.inr ⟨"StateVault", List.mem_of_getElem? (i := 493) (by decide +kernel)⟩⟩, List.mem_of_getElem? (i := 273) (by decide +kernel)⟩
theorem clX4_120 : sv_cV RX4 120 MX0_makeDifference 3 := ⟨⟨ckX0_makeDifference.1, ckX0_makeDifference.2.1, ckX0_makeDifference.2.2.1, ckX0_makeDifference.2.2.2, Or.inr ⟨"StateVault", List.mem_of_getElem? (i := 494) (by decide +kernel)⟩⟩, List.mem_of_getElem? (i := 496) (by decide +kernel), List.mem_of_getElem? (i := 33) (by decide +kernel)⟩
theorem clL_35 : sv_cV RL 35 MX4_load 1 := ⟨⟨ckX4_load.1, ckX4_load.2.1, ckX4_load.2.2.1, ckX4_load.2.2.2, Or.inl (List.mem_of_getElem? (i := 498) (by decide +kernel))⟩, List.mem_of_getElem? (i := 499) (by decide +kernel), List.mem_of_getElem? (i := 500) (by decide +kernel)⟩
theorem clL_39 : sv_cV RL 39 MX4_drop 2 := ⟨⟨ckX4_drop.1, ckX4_drop.2.1, ckX4_drop.2.2.1, ckX4_drop.2.2.2, Or.inl (List.mem_of_getElem? (i := 503) (by decide +kernel))⟩, List.mem_of_getElem? (i := 504) (by decide +kernel), List.mem_of_getElem? (i := 505) (by decide +kernel)⟩
theorem clX4_139 : sv_cV RX4 139 MX4_mendFollowers 1 := ⟨⟨ckX4_mendFollowers.1, ckX4_mendFollowers.2.1, ckX4_mendFollowers.2.2.1, ckX4_mendFollowers.2.2.2, Or.inl (List.mem_of_getElem? (i := 507) (by decide +kernel))⟩, List.mem_of_getElem? (i := 509) (by decide +kernel), List.mem_of_getElem? (i := 34) (by decide +kernel)⟩
theorem clX4_143 : sv_cV RX4 143 MX1_removePlace 1 := ⟨⟨ckX1_removePlace.1, ckX1_removePlace.2.1, ckX1_removePlace.2.2.1, ckX1_removePlace.2.2.2, Or.inr ⟨"StateVault", List.mem_of_getElem? (i := 511) (by decide +kernel)⟩⟩, List.mem_of_getElem? (i := 513) (by decide +kernel), List.mem_of_getElem? (i := 35) (by decide +kernel)⟩
theorem clX4_146 : sv_cV RX4 146 MX1_followersOf 1 := ⟨⟨ckX1_followersOf.1, ckX1_followersOf.2.1, ckX1_followersOf.2.2.1, ckX1_followersOf.2.2.2, Or.inr ⟨"StateVault", List.mem_of_getElem? (i := 515) (by decide +kernel)⟩⟩, List.mem_of_getElem? (i := 517) (by decide +kernel), List.mem_of_getElem? (i := 36) (by decide +kernel)⟩
theorem clL_44 : sv_cV RL 44 MX4_alter 3 := ⟨⟨ckX4_alter.1, ckX4_alter.2.1, ckX4_alter.2.2.1, ckX4_alter.2.2.2, Or.inl (List.mem_of_getElem? (i := 519) (by decide +kernel))⟩, List.mem_of_getElem? (i := 520) (by decide +kernel), List.mem_of_getElem? (i := 521) (by decide +kernel)⟩
theorem clL_49 : sv_cV RL 49 MX4_pack 0 := ⟨⟨ckX4_pack.1, ckX4_pack.2.1, ckX4_pack.2.2.1, ckX4_pack.2.2.2, Or.inl (List.mem_of_getElem? (i := 523) (by decide +kernel))⟩, List.mem_of_getElem? (i := 524) (by decide +kernel), List.mem_of_getElem? (i := 525) (by decide +kernel)⟩
theorem clX4_151 : sv_cV RX4 151 MX1_weight 0 := ⟨⟨ckX1_weight.1, ckX1_weight.2.1, ckX1_weight.2.2.1, ckX1_weight.2.2.2, Or.inr ⟨"StateVault", List.mem_of_getElem? (i := 527) (by decide +kernel)⟩⟩, List.mem_of_getElem? (i := 529) (by decide +kernel), List.mem_of_getElem? (i := 37) (by decide +kernel)⟩
theorem clX1_73 : sv_cV RX1 73 MX0_weight 0 := ⟨⟨ckX0_weight.1, ckX0_weight.2.1, ckX0_weight.2.2.1, ckX0_weight.2.2.2, Or.inr ⟨"StateVault", List.mem_of_getElem? (i := 531) (by decide +kernel)⟩⟩, List.mem_of_getElem? (i := 533) (by decide +kernel), List.mem_of_getElem? (i := 38) (by decide +kernel)⟩
theorem clX4_154 : sv_cV RX4 154 MX4_packPlace 1 := ⟨⟨ckX4_packPlace.1, ckX4_packPlace.2.1, ckX4_packPlace.2.2.1, ckX4_packPlace.2.2.2, Or.inl (List.mem_of_getElem? (i := 535) (by decide +kernel))⟩, List.mem_of_getElem? (i := 537) (by decide +kernel), List.mem_of_getElem? (i := 39) (by decide +kernel)⟩
theorem clL_53 : sv_cV RL 53 MX4_set 2 := ⟨⟨ckX4_set.1, ckX4_set.2.1, ckX4_set.2.2.1, ckX4_set.2.2.2, Or.inl (List.mem_of_getElem? (i := 539) (by decide +kernel))⟩, List.mem_of_getElem? (i := 540) (by decide +kernel), List.mem_of_getElem? (i := 541) (by decide +kernel)⟩
theorem clL_58 : sv_cV RL 58 MX4_undo 0 := ⟨⟨ckX4_undo.1, ckX4_undo.2.1, ckX4_undo.2.2.1, ckX4_undo.2.2.2, Or.inl (List.mem_of_getElem? (i := 543) (by decide +kernel))⟩, List.mem_of_getElem? (i := 544) (by decide +kernel), List.mem_of_getElem? (i := 545) (by decide +kernel)⟩
theorem clL_62 : sv_cV RL 62 MX4_value 1 := ⟨⟨ckX4_value.1, ckX4_value.2.1, ckX4_value.2.2.1, ckX4_value.2.2.2, Or.inl (List.mem_of_getElem? (i := 547) (by decide +kernel))⟩, List.mem_of_getElem? (i := 548) (by decide +kernel), List.mem_of_getElem? (i := 549) (by decide +kernel)⟩
theorem clL_66 : sv_cV RL 66 MX4_kept 2 := ⟨⟨ckX4_kept.1, ckX4_kept.2.1, ckX4_kept.2.2.1, ckX4_kept.2.2.2, Or.inl (List.mem_of_getElem? (i := 551) (by decide +kernel))⟩, List.mem_of_getElem? (i := 552) (by decide +kernel), List.mem_of_getElem? (i := 553) (by decide +kernel)⟩
theorem clX4_160 : sv_cV RX4 160 MX4_propertyOf 2 := ⟨⟨ckX4_propertyOf.1, ckX4_propertyOf.2.1, ckX4_propertyOf.2.2.1, ckX4_propertyOf.2.2.2, Or.inl (List.mem_of_getElem? (i := 555) (by decide +kernel))⟩, List.mem_of_getElem? (i := 557) (by decide +kernel), List.mem_of_getElem? (i := 40) (by decide +kernel)⟩
theorem clX4_205 : sv_cV RX4 205 MX0_weight 0 := ⟨⟨ckX0_weight.1, ckX0_weight.2.1, ckX0_weight.2.2.1, ckX0_weight.2.2.2, Or.inr ⟨"StateVault", List.mem_of_getElem? (i := 559) (by decide +kernel)⟩⟩, List.mem_of_getElem? (i := 533) (by decide +kernel), List.mem_of_getElem? (i := 38) (by decide +kernel)⟩
theorem clL_70 : sv_cV RL 70 MX4_entry 3 := ⟨⟨ckX4_entry.1, ckX4_entry.2.1, ckX4_entry.2.2.1, ckX4_entry.2.2.2, Or.inl (List.mem_of_getElem? (i := 560) (by decide +kernel))⟩, List.mem_of_getElem? (i := 561) (by decide +kernel), List.mem_of_getElem? (i := 562) (by decide +kernel)⟩
theorem clL_74 : sv_cV RL 74 MX4_read 3 := ⟨⟨ckX4_read.1, ckX4_read.2.1, ckX4_read.2.2.1, ckX4_read.2.2.2, Or.inl (List.mem_of_getElem? (i := 564) (by decide +kernel))⟩, List.mem_of_getElem? (i := 565) (by decide +kernel), List.mem_of_getElem? (i := 566) (by decide +kernel)⟩
theorem clL_78 : sv_cV RL 78 MX4_cause 3 := ⟨⟨ckX4_cause.1, ckX4_cause.2.1, ckX4_cause.2.2.1, ckX4_cause.2.2.2, Or.inl (List.mem_of_getElem? (i := 568) (by decide +kernel))⟩, List.mem_of_getElem? (i := 569) (by decide +kernel), List.mem_of_getElem? (i := 570) (by decide +kernel)⟩
theorem clX4_166 : sv_cV RX4 166 MX4_causeOf 3 := ⟨⟨ckX4_causeOf.1, ckX4_causeOf.2.1, ckX4_causeOf.2.2.1, ckX4_causeOf.2.2.2, Or.inl (List.mem_of_getElem? (i := 572) (by decide +kernel))⟩, List.mem_of_getElem? (i := 574) (by decide +kernel), List.mem_of_getElem? (i := 41) (by decide +kernel)⟩
theorem clX4_215 : sv_cV RX4 215 MX4_reasonOf 1 := ⟨⟨ckX4_reasonOf.1, ckX4_reasonOf.2.1, ckX4_reasonOf.2.2.1, ckX4_reasonOf.2.2.2, Or.inl (List.mem_of_getElem? (i := 576) (by decide +kernel))⟩, List.mem_of_getElem? (i := 578) (by decide +kernel), List.mem_of_getElem? (i := 42) (by decide +kernel)⟩
theorem clX4_174 : sv_cV RX4 174 MX1_baseOf 1 := ⟨⟨ckX1_baseOf.1, ckX1_baseOf.2.1, ckX1_baseOf.2.2.1, ckX1_baseOf.2.2.2, Or.inr ⟨"StateVault", List.mem_of_getElem? (i := 580) (by decide +kernel)⟩⟩, List.mem_of_getElem? (i := 478) (by decide +kernel), List.mem_of_getElem? (i := 29) (by decide +kernel)⟩
theorem clL_82 : sv_cV RL 82 MX4_apart 2 := ⟨⟨ckX4_apart.1, ckX4_apart.2.1, ckX4_apart.2.2.1, ckX4_apart.2.2.2, Or.inl (List.mem_of_getElem? (i := 581) (by decide +kernel))⟩, List.mem_of_getElem? (i := 582) (by decide +kernel), List.mem_of_getElem? (i := 583) (by decide +kernel)⟩
theorem clL_86 : sv_cV RL 86 MX4_fork 2 := ⟨⟨ckX4_fork.1, ckX4_fork.2.1, ckX4_fork.2.2.1, ckX4_fork.2.2.2, Or.inl (List.mem_of_getElem? (i := 585) (by decide +kernel))⟩, List.mem_of_getElem? (i := 586) (by decide +kernel), List.mem_of_getElem? (i := 587) (by decide +kernel)⟩
theorem clL_90 : sv_cV RL 90 MX4_nearest 0 := ⟨⟨ckX4_nearest.1, ckX4_nearest.2.1, ckX4_nearest.2.2.1, ckX4_nearest.2.2.2, Or.inl (List.mem_of_getElem? (i := 589) (by decide +kernel))⟩, List.mem_of_getElem? (i := 590) (by decide +kernel), List.mem_of_getElem? (i := 591) (by decide +kernel)⟩
theorem clX4_177 : sv_cV RX4 177 MX4_nearestToGame 0 := ⟨⟨ckX4_nearestToGame.1, ckX4_nearestToGame.2.1, ckX4_nearestToGame.2.2.1, ckX4_nearestToGame.2.2.2, Or.inl (List.mem_of_getElem? (i := 593) (by decide +kernel))⟩, List.mem_of_getElem? (i := 595) (by decide +kernel), List.mem_of_getElem? (i := 43) (by decide +kernel)⟩
theorem clL_94 : sv_cV RL 94 MX4_count 1 := ⟨⟨ckX4_count.1, ckX4_count.2.1, ckX4_count.2.2.1, ckX4_count.2.2.2, Or.inl (List.mem_of_getElem? (i := 597) (by decide +kernel))⟩, List.mem_of_getElem? (i := 598) (by decide +kernel), List.mem_of_getElem? (i := 599) (by decide +kernel)⟩
theorem clX4_180 : sv_cV RX4 180 MX4_tally 1 := ⟨⟨ckX4_tally.1, ckX4_tally.2.1, ckX4_tally.2.2.1, ckX4_tally.2.2.2, Or.inl (List.mem_of_getElem? (i := 601) (by decide +kernel))⟩, List.mem_of_getElem? (i := 603) (by decide +kernel), List.mem_of_getElem? (i := 44) (by decide +kernel)⟩
theorem clX4_206 : sv_cV RX4 206 MX1_wholeOnes 0 := ⟨⟨ckX1_wholeOnes.1, ckX1_wholeOnes.2.1, ckX1_wholeOnes.2.2.1, ckX1_wholeOnes.2.2.2, Or.inr ⟨"StateVault", List.mem_of_getElem? (i := 605) (by decide +kernel)⟩⟩, List.mem_of_getElem? (i := 607) (by decide +kernel), List.mem_of_getElem? (i := 45) (by decide +kernel)⟩
theorem clX1_70 : sv_cV RX1 70 MX1_followersOf 1 := ⟨⟨ckX1_followersOf.1, ckX1_followersOf.2.1, ckX1_followersOf.2.2.1, ckX1_followersOf.2.2.2, Or.inl (List.mem_of_getElem? (i := 609) (by decide +kernel))⟩, List.mem_of_getElem? (i := 517) (by decide +kernel), List.mem_of_getElem? (i := 36) (by decide +kernel)⟩
theorem clX4_209 : sv_cV RX4 209 MX4_unreadable 0 := ⟨⟨ckX4_unreadable.1, ckX4_unreadable.2.1, ckX4_unreadable.2.2.1, ckX4_unreadable.2.2.2, Or.inl (List.mem_of_getElem? (i := 610) (by decide +kernel))⟩, List.mem_of_getElem? (i := 612) (by decide +kernel), List.mem_of_getElem? (i := 46) (by decide +kernel)⟩
theorem clX4_212 : sv_cV RX4 212 MX1_longestChain 0 := ⟨⟨ckX1_longestChain.1, ckX1_longestChain.2.1, ckX1_longestChain.2.2.1, ckX1_longestChain.2.2.2, Or.inr ⟨"StateVault", List.mem_of_getElem? (i := 614) (by decide +kernel)⟩⟩, List.mem_of_getElem? (i := 616) (by decide +kernel), List.mem_of_getElem? (i := 47) (by decide +kernel)⟩
theorem clX1_61 : sv_cV RX1 61 MX1_linksOf 1 := ⟨⟨ckX1_linksOf.1, ckX1_linksOf.2.1, ckX1_linksOf.2.2.1, ckX1_linksOf.2.2.2, Or.inl (List.mem_of_getElem? (i := 618) (by decide +kernel))⟩, List.mem_of_getElem? (i := 474) (by decide +kernel), List.mem_of_getElem? (i := 28) (by decide +kernel)⟩
theorem clL_98 : sv_cV RL 98 MX4_digest 0 := ⟨⟨ckX4_digest.1, ckX4_digest.2.1, ckX4_digest.2.2.1, ckX4_digest.2.2.2, Or.inl (List.mem_of_getElem? (i := 620) (by decide +kernel))⟩, List.mem_of_getElem? (i := 621) (by decide +kernel), List.mem_of_getElem? (i := 622) (by decide +kernel)⟩
theorem clX4_187 : sv_cV RX4 187 MX4_addPlace 2 := ⟨⟨ckX4_addPlace.1, ckX4_addPlace.2.1, ckX4_addPlace.2.2.1, ckX4_addPlace.2.2.2, Or.inl (List.mem_of_getElem? (i := 626) (by decide +kernel))⟩, List.mem_of_getElem? (i := 628) (by decide +kernel), List.mem_of_getElem? (i := 48) (by decide +kernel)⟩
theorem clL_12 : sv_cI RL 12 MX5_init 0 := ⟨⟨ckX5_init.1, ckX5_init.2.1, ckX5_init.2.2.1, ckX5_init.2.2.2, Or.inl (List.mem_of_getElem? (i := 632) (by decide +kernel))⟩, List.mem_of_getElem? (i := 633) (by decide +kernel), rfl, rfl⟩
theorem clL_61 : sv_cV RL 61 MX5_undo 0 := ⟨⟨ckX5_undo.1, ckX5_undo.2.1, ckX5_undo.2.2.1, ckX5_undo.2.2.2, Or.inl (List.mem_of_getElem? (i := 689) (by decide +kernel))⟩, List.mem_of_getElem? (i := 690) (by decide +kernel), List.mem_of_getElem? (i := 691) (by decide +kernel)⟩
theorem clL_17 : sv_cV RL 17 MX5_type 1 := ⟨⟨ckX5_type.1, ckX5_type.2.1, ckX5_type.2.2.1, ckX5_type.2.2.2, Or.inl (List.mem_of_getElem? (i := 693) (by decide +kernel))⟩, List.mem_of_getElem? (i := 694) (by decide +kernel), List.mem_of_getElem? (i := 695) (by decide +kernel)⟩
theorem clX5_81 : sv_cS RX5 81 MX5_in 3 := ⟨⟨ckX5_in.1, ckX5_in.2.1, ckX5_in.2.2.1, ckX5_in.2.2.2, Or.inl (List.mem_of_getElem? (i := 697) (by decide +kernel))⟩, List.mem_of_getElem? (i := 698) (by decide +kernel)⟩
theorem clL_22 : sv_cV RL 22 MX5_clear 0 := ⟨⟨ckX5_clear.1, ckX5_clear.2.1, ckX5_clear.2.2.1, ckX5_clear.2.2.2, Or.inl (List.mem_of_getElem? (i := 700) (by decide +kernel))⟩, List.mem_of_getElem? (i := 701) (by decide +kernel), List.mem_of_getElem? (i := 702) (by decide +kernel)⟩
theorem clL_26 : sv_cV RL 26 MX5_play 0 := ⟨⟨ckX5_play.1, ckX5_play.2.1, ckX5_play.2.2.1, ckX5_play.2.2.2, Or.inl (List.mem_of_getElem? (i := 704) (by decide +kernel))⟩, List.mem_of_getElem? (i := 705) (by decide +kernel), List.mem_of_getElem? (i := 706) (by decide +kernel)⟩
theorem clX5_134 : sv_cV RX5 134 MX5_readsScript 0 := ⟨⟨ckX5_readsScript.1, ckX5_readsScript.2.1, ckX5_readsScript.2.2.1, ckX5_readsScript.2.2.2, Or.inl (List.mem_of_getElem? (i := 708) (by decide +kernel))⟩, List.mem_of_getElem? (i := 710) (by decide +kernel), List.mem_of_getElem? (i := 49) (by decide +kernel)⟩
theorem clX5_104 : sv_cV RX5 104 MX5_skips 0 := ⟨⟨ckX5_skips.1, ckX5_skips.2.1, ckX5_skips.2.2.1, ckX5_skips.2.2.2, Or.inl (List.mem_of_getElem? (i := 712) (by decide +kernel))⟩, List.mem_of_getElem? (i := 714) (by decide +kernel), List.mem_of_getElem? (i := 50) (by decide +kernel)⟩
theorem clX5_91 : sv_cV RX5 91 MX5_next 0 := ⟨⟨ckX5_next.1, ckX5_next.2.1, ckX5_next.2.2.1, ckX5_next.2.2.2, Or.inl (List.mem_of_getElem? (i := 716) (by decide +kernel))⟩, List.mem_of_getElem? (i := 718) (by decide +kernel), List.mem_of_getElem? (i := 51) (by decide +kernel)⟩
theorem clX5_127 : sv_cV RX5 127 MX5_readsCommand 0 := ⟨⟨ckX5_readsCommand.1, ckX5_readsCommand.2.1, ckX5_readsCommand.2.2.1, ckX5_readsCommand.2.2.2, Or.inl (List.mem_of_getElem? (i := 720) (by decide +kernel))⟩, List.mem_of_getElem? (i := 722) (by decide +kernel), List.mem_of_getElem? (i := 52) (by decide +kernel)⟩
theorem clX5_118 : sv_cV RX5 118 MX5_wordOf 1 := ⟨⟨ckX5_wordOf.1, ckX5_wordOf.2.1, ckX5_wordOf.2.2.1, ckX5_wordOf.2.2.2, Or.inl (List.mem_of_getElem? (i := 724) (by decide +kernel))⟩, List.mem_of_getElem? (i := 726) (by decide +kernel), List.mem_of_getElem? (i := 53) (by decide +kernel)⟩
theorem clX5_111 : sv_cV RX5 111 MX5_isWord 3 := ⟨⟨ckX5_isWord.1, ckX5_isWord.2.1, ckX5_isWord.2.2.1, ckX5_isWord.2.2.2, Or.inl (List.mem_of_getElem? (i := 729) (by decide +kernel))⟩, List.mem_of_getElem? (i := 731) (by decide +kernel), List.mem_of_getElem? (i := 54) (by decide +kernel)⟩
theorem clX5_101 : sv_cV RX5 101 MX5_fails 1 := ⟨⟨ckX5_fails.1, ckX5_fails.2.1, ckX5_fails.2.2.1, ckX5_fails.2.2.2, Or.inl (List.mem_of_getElem? (i := 737) (by decide +kernel))⟩, List.mem_of_getElem? (i := 739) (by decide +kernel), List.mem_of_getElem? (i := 55) (by decide +kernel)⟩
theorem clX5_52 : sv_cS RX5 52 MX5_valuesOf 1 := ⟨⟨ckX5_valuesOf.1, ckX5_valuesOf.2.1, ckX5_valuesOf.2.2.1, ckX5_valuesOf.2.2.2, Or.inl (List.mem_of_getElem? (i := 741) (by decide +kernel))⟩, List.mem_of_getElem? (i := 742) (by decide +kernel)⟩
theorem clX5_107 : sv_cV RX5 107 MX5_number 2 := ⟨⟨ckX5_number.1, ckX5_number.2.1, ckX5_number.2.2.1, ckX5_number.2.2.2, Or.inl (List.mem_of_getElem? (i := 744) (by decide +kernel))⟩, List.mem_of_getElem? (i := 746) (by decide +kernel), List.mem_of_getElem? (i := 56) (by decide +kernel)⟩
theorem clX5_97 : sv_cV RX5 97 MX5_isDigit 0 := ⟨⟨ckX5_isDigit.1, ckX5_isDigit.2.1, ckX5_isDigit.2.2.1, ckX5_isDigit.2.2.2, Or.inl (List.mem_of_getElem? (i := 748) (by decide +kernel))⟩, List.mem_of_getElem? (i := 750) (by decide +kernel), List.mem_of_getElem? (i := 57) (by decide +kernel)⟩
theorem clX5_124 : sv_cV RX5 124 MX5_amount 0 := ⟨⟨ckX5_amount.1, ckX5_amount.2.1, ckX5_amount.2.2.1, ckX5_amount.2.2.2, Or.inl (List.mem_of_getElem? (i := 752) (by decide +kernel))⟩, List.mem_of_getElem? (i := 754) (by decide +kernel), List.mem_of_getElem? (i := 58) (by decide +kernel)⟩
theorem clX5_137 : sv_cV RX5 137 MX5_keeps 0 := ⟨⟨ckX5_keeps.1, ckX5_keeps.2.1, ckX5_keeps.2.2.1, ckX5_keeps.2.2.2, Or.inl (List.mem_of_getElem? (i := 756) (by decide +kernel))⟩, List.mem_of_getElem? (i := 758) (by decide +kernel), List.mem_of_getElem? (i := 59) (by decide +kernel)⟩
theorem clX5_140 : sv_cV RX5 140 MX5_does 1 := ⟨⟨ckX5_does.1, ckX5_does.2.1, ckX5_does.2.2.1, ckX5_does.2.2.2, Or.inl (List.mem_of_getElem? (i := 760) (by decide +kernel))⟩, List.mem_of_getElem? (i := 762) (by decide +kernel), List.mem_of_getElem? (i := 60) (by decide +kernel)⟩
theorem clX5_130 : sv_cV RX5 130 MX5_turns 2 := ⟨⟨ckX5_turns.1, ckX5_turns.2.1, ckX5_turns.2.2.1, ckX5_turns.2.2.2, Or.inl (List.mem_of_getElem? (i := 764) (by decide +kernel))⟩, List.mem_of_getElem? (i := 766) (by decide +kernel), List.mem_of_getElem? (i := 61) (by decide +kernel)⟩
theorem clL_30 : sv_cV RL 30 MX5_raise 0 := ⟨⟨ckX5_raise.1, ckX5_raise.2.1, ckX5_raise.2.2.1, ckX5_raise.2.2.2, Or.inl (List.mem_of_getElem? (i := 768) (by decide +kernel))⟩, List.mem_of_getElem? (i := 769) (by decide +kernel), List.mem_of_getElem? (i := 770) (by decide +kernel)⟩
theorem clX5_143 : sv_cV RX5 143 MX5_takesGame 0 := ⟨⟨ckX5_takesGame.1, ckX5_takesGame.2.1, ckX5_takesGame.2.2.1, ckX5_takesGame.2.2.2, Or.inl (List.mem_of_getElem? (i := 772) (by decide +kernel))⟩, List.mem_of_getElem? (i := 774) (by decide +kernel), List.mem_of_getElem? (i := 62) (by decide +kernel)⟩
theorem clX5_49 : sv_cV RX5 49 MX5_raises 0 := ⟨⟨ckX5_raises.1, ckX5_raises.2.1, ckX5_raises.2.2.1, ckX5_raises.2.2.2, Or.inl (List.mem_of_getElem? (i := 776) (by decide +kernel))⟩, List.mem_of_getElem? (i := 778) (by decide +kernel), List.mem_of_getElem? (i := 63) (by decide +kernel)⟩
theorem clX5_146 : sv_cV RX5 146 MX5_givesGame 0 := ⟨⟨ckX5_givesGame.1, ckX5_givesGame.2.1, ckX5_givesGame.2.2.1, ckX5_givesGame.2.2.2, Or.inl (List.mem_of_getElem? (i := 780) (by decide +kernel))⟩, List.mem_of_getElem? (i := 782) (by decide +kernel), List.mem_of_getElem? (i := 64) (by decide +kernel)⟩
theorem clL_34 : sv_cV RL 34 MX5_keep 0 := ⟨⟨ckX5_keep.1, ckX5_keep.2.1, ckX5_keep.2.2.1, ckX5_keep.2.2.2, Or.inl (List.mem_of_getElem? (i := 784) (by decide +kernel))⟩, List.mem_of_getElem? (i := 785) (by decide +kernel), List.mem_of_getElem? (i := 786) (by decide +kernel)⟩
theorem clX5_73 : sv_cV RX5 73 MX5_sumNow 0 := ⟨⟨ckX5_sumNow.1, ckX5_sumNow.2.1, ckX5_sumNow.2.2.1, ckX5_sumNow.2.2.2, Or.inl (List.mem_of_getElem? (i := 788) (by decide +kernel))⟩, List.mem_of_getElem? (i := 790) (by decide +kernel), List.mem_of_getElem? (i := 65) (by decide +kernel)⟩
theorem clX5_158 : sv_cV RX5 158 MX5_isNear 0 := ⟨⟨ckX5_isNear.1, ckX5_isNear.2.1, ckX5_isNear.2.2.1, ckX5_isNear.2.2.2, Or.inl (List.mem_of_getElem? (i := 792) (by decide +kernel))⟩, List.mem_of_getElem? (i := 794) (by decide +kernel), List.mem_of_getElem? (i := 66) (by decide +kernel)⟩
theorem clX5_149 : sv_cV RX5 149 MX5_setsAside 0 := ⟨⟨ckX5_setsAside.1, ckX5_setsAside.2.1, ckX5_setsAside.2.2.1, ckX5_setsAside.2.2.2, Or.inl (List.mem_of_getElem? (i := 796) (by decide +kernel))⟩, List.mem_of_getElem? (i := 798) (by decide +kernel), List.mem_of_getElem? (i := 67) (by decide +kernel)⟩
theorem clX5_152 : sv_cV RX5 152 MX5_reads 1 := ⟨⟨ckX5_reads.1, ckX5_reads.2.1, ckX5_reads.2.2.1, ckX5_reads.2.2.2, Or.inl (List.mem_of_getElem? (i := 800) (by decide +kernel))⟩, List.mem_of_getElem? (i := 802) (by decide +kernel), List.mem_of_getElem? (i := 68) (by decide +kernel)⟩
theorem clX5_62 : sv_cV RX5 62 MX5_climbs 1 := ⟨⟨ckX5_climbs.1, ckX5_climbs.2.1, ckX5_climbs.2.2.1, ckX5_climbs.2.2.2, Or.inl (List.mem_of_getElem? (i := 804) (by decide +kernel))⟩, List.mem_of_getElem? (i := 806) (by decide +kernel), List.mem_of_getElem? (i := 69) (by decide +kernel)⟩
theorem clX5_59 : sv_cV RX5 59 MX5_slotOf 1 := ⟨⟨ckX5_slotOf.1, ckX5_slotOf.2.1, ckX5_slotOf.2.2.1, ckX5_slotOf.2.2.2, Or.inl (List.mem_of_getElem? (i := 808) (by decide +kernel))⟩, List.mem_of_getElem? (i := 810) (by decide +kernel), List.mem_of_getElem? (i := 70) (by decide +kernel)⟩
theorem clX5_38 : sv_cV RX5 38 MX5_of 2 := ⟨⟨ckX5_of.1, ckX5_of.2.1, ckX5_of.2.2.1, ckX5_of.2.2.2, Or.inl (List.mem_of_getElem? (i := 812) (by decide +kernel))⟩, List.mem_of_getElem? (i := 814) (by decide +kernel), List.mem_of_getElem? (i := 71) (by decide +kernel)⟩
theorem clX5_66 : sv_cV RX5 66 MX5_isWhole 1 := ⟨⟨ckX5_isWhole.1, ckX5_isWhole.2.1, ckX5_isWhole.2.2.1, ckX5_isWhole.2.2.2, Or.inl (List.mem_of_getElem? (i := 816) (by decide +kernel))⟩, List.mem_of_getElem? (i := 818) (by decide +kernel), List.mem_of_getElem? (i := 72) (by decide +kernel)⟩
theorem clX5_70 : sv_cV RX5 70 MX5_raisesTo 1 := ⟨⟨ckX5_raisesTo.1, ckX5_raisesTo.2.1, ckX5_raisesTo.2.2.1, ckX5_raisesTo.2.2.2, Or.inl (List.mem_of_getElem? (i := 820) (by decide +kernel))⟩, List.mem_of_getElem? (i := 822) (by decide +kernel), List.mem_of_getElem? (i := 73) (by decide +kernel)⟩
theorem clX5_155 : sv_cV RX5 155 MX5_differences 1 := ⟨⟨ckX5_differences.1, ckX5_differences.2.1, ckX5_differences.2.2.1, ckX5_differences.2.2.2, Or.inl (List.mem_of_getElem? (i := 824) (by decide +kernel))⟩, List.mem_of_getElem? (i := 826) (by decide +kernel), List.mem_of_getElem? (i := 74) (by decide +kernel)⟩
theorem clX5_77 : sv_cV RX5 77 MX5_put 3 := ⟨⟨ckX5_put.1, ckX5_put.2.1, ckX5_put.2.2.1, ckX5_put.2.2.2, Or.inl (List.mem_of_getElem? (i := 828) (by decide +kernel))⟩, List.mem_of_getElem? (i := 830) (by decide +kernel), List.mem_of_getElem? (i := 75) (by decide +kernel)⟩
theorem clX5_161 : sv_cV RX5 161 MX5_writesDifference 2 := ⟨⟨ckX5_writesDifference.1, ckX5_writesDifference.2.1, ckX5_writesDifference.2.2.1, ckX5_writesDifference.2.2.2, Or.inl (List.mem_of_getElem? (i := 832) (by decide +kernel))⟩, List.mem_of_getElem? (i := 834) (by decide +kernel), List.mem_of_getElem? (i := 76) (by decide +kernel)⟩
theorem clX5_164 : sv_cV RX5 164 MX5_writesWhole 1 := ⟨⟨ckX5_writesWhole.1, ckX5_writesWhole.2.1, ckX5_writesWhole.2.2.1, ckX5_writesWhole.2.2.2, Or.inl (List.mem_of_getElem? (i := 836) (by decide +kernel))⟩, List.mem_of_getElem? (i := 838) (by decide +kernel), List.mem_of_getElem? (i := 77) (by decide +kernel)⟩
theorem clL_38 : sv_cV RL 38 MX5_load 1 := ⟨⟨ckX5_load.1, ckX5_load.2.1, ckX5_load.2.2.1, ckX5_load.2.2.2, Or.inl (List.mem_of_getElem? (i := 840) (by decide +kernel))⟩, List.mem_of_getElem? (i := 841) (by decide +kernel), List.mem_of_getElem? (i := 842) (by decide +kernel)⟩
theorem clL_43 : sv_cV RL 43 MX5_drop 2 := ⟨⟨ckX5_drop.1, ckX5_drop.2.1, ckX5_drop.2.2.1, ckX5_drop.2.2.2, Or.inl (List.mem_of_getElem? (i := 844) (by decide +kernel))⟩, List.mem_of_getElem? (i := 845) (by decide +kernel), List.mem_of_getElem? (i := 846) (by decide +kernel)⟩
theorem clX5_167 : sv_cV RX5 167 MX5_basedOn 1 := ⟨⟨ckX5_basedOn.1, ckX5_basedOn.2.1, ckX5_basedOn.2.2.1, ckX5_basedOn.2.2.2, Or.inl (List.mem_of_getElem? (i := 848) (by decide +kernel))⟩, List.mem_of_getElem? (i := 850) (by decide +kernel), List.mem_of_getElem? (i := 78) (by decide +kernel)⟩
theorem clL_48 : sv_cV RL 48 MX5_alter 3 := ⟨⟨ckX5_alter.1, ckX5_alter.2.1, ckX5_alter.2.2.1, ckX5_alter.2.2.2, Or.inl (List.mem_of_getElem? (i := 852) (by decide +kernel))⟩, List.mem_of_getElem? (i := 853) (by decide +kernel), List.mem_of_getElem? (i := 854) (by decide +kernel)⟩
theorem clL_52 : sv_cV RL 52 MX5_pack 0 := ⟨⟨ckX5_pack.1, ckX5_pack.2.1, ckX5_pack.2.2.1, ckX5_pack.2.2.2, Or.inl (List.mem_of_getElem? (i := 856) (by decide +kernel))⟩, List.mem_of_getElem? (i := 857) (by decide +kernel), List.mem_of_getElem? (i := 858) (by decide +kernel)⟩
theorem clX5_176 : sv_cV RX5 176 MX5_weights 0 := ⟨⟨ckX5_weights.1, ckX5_weights.2.1, ckX5_weights.2.2.1, ckX5_weights.2.2.2, Or.inl (List.mem_of_getElem? (i := 860) (by decide +kernel))⟩, List.mem_of_getElem? (i := 862) (by decide +kernel), List.mem_of_getElem? (i := 79) (by decide +kernel)⟩
theorem clX5_170 : sv_cV RX5 170 MX5_weight 1 := ⟨⟨ckX5_weight.1, ckX5_weight.2.1, ckX5_weight.2.2.1, ckX5_weight.2.2.2, Or.inl (List.mem_of_getElem? (i := 864) (by decide +kernel))⟩, List.mem_of_getElem? (i := 866) (by decide +kernel), List.mem_of_getElem? (i := 80) (by decide +kernel)⟩
theorem clX5_179 : sv_cV RX5 179 MX5_nearestBase 1 := ⟨⟨ckX5_nearestBase.1, ckX5_nearestBase.2.1, ckX5_nearestBase.2.2.1, ckX5_nearestBase.2.2.2, Or.inl (List.mem_of_getElem? (i := 868) (by decide +kernel))⟩, List.mem_of_getElem? (i := 870) (by decide +kernel), List.mem_of_getElem? (i := 81) (by decide +kernel)⟩
theorem clX5_173 : sv_cV RX5 173 MX5_linksOf 1 := ⟨⟨ckX5_linksOf.1, ckX5_linksOf.2.1, ckX5_linksOf.2.2.1, ckX5_linksOf.2.2.2, Or.inl (List.mem_of_getElem? (i := 872) (by decide +kernel))⟩, List.mem_of_getElem? (i := 874) (by decide +kernel), List.mem_of_getElem? (i := 82) (by decide +kernel)⟩
theorem clL_57 : sv_cV RL 57 MX5_set 2 := ⟨⟨ckX5_set.1, ckX5_set.2.1, ckX5_set.2.2.1, ckX5_set.2.2.2, Or.inl (List.mem_of_getElem? (i := 876) (by decide +kernel))⟩, List.mem_of_getElem? (i := 877) (by decide +kernel), List.mem_of_getElem? (i := 878) (by decide +kernel)⟩
theorem clL_65 : sv_cV RL 65 MX5_value 1 := ⟨⟨ckX5_value.1, ckX5_value.2.1, ckX5_value.2.2.1, ckX5_value.2.2.2, Or.inl (List.mem_of_getElem? (i := 880) (by decide +kernel))⟩, List.mem_of_getElem? (i := 881) (by decide +kernel), List.mem_of_getElem? (i := 882) (by decide +kernel)⟩
theorem clL_69 : sv_cV RL 69 MX5_kept 2 := ⟨⟨ckX5_kept.1, ckX5_kept.2.1, ckX5_kept.2.2.1, ckX5_kept.2.2.2, Or.inl (List.mem_of_getElem? (i := 884) (by decide +kernel))⟩, List.mem_of_getElem? (i := 885) (by decide +kernel), List.mem_of_getElem? (i := 886) (by decide +kernel)⟩
theorem clX5_182 : sv_cV RX5 182 MX5_part 2 := ⟨⟨ckX5_part.1, ckX5_part.2.1, ckX5_part.2.2.1, ckX5_part.2.2.2, Or.inl (List.mem_of_getElem? (i := 888) (by decide +kernel))⟩, List.mem_of_getElem? (i := 890) (by decide +kernel), List.mem_of_getElem? (i := 83) (by decide +kernel)⟩
theorem clL_73 : sv_cV RL 73 MX5_entry 3 := ⟨⟨ckX5_entry.1, ckX5_entry.2.1, ckX5_entry.2.2.1, ckX5_entry.2.2.2, Or.inl (List.mem_of_getElem? (i := 892) (by decide +kernel))⟩, List.mem_of_getElem? (i := 893) (by decide +kernel), List.mem_of_getElem? (i := 894) (by decide +kernel)⟩
theorem clL_77 : sv_cV RL 77 MX5_read 3 := ⟨⟨ckX5_read.1, ckX5_read.2.1, ckX5_read.2.2.1, ckX5_read.2.2.2, Or.inl (List.mem_of_getElem? (i := 896) (by decide +kernel))⟩, List.mem_of_getElem? (i := 897) (by decide +kernel), List.mem_of_getElem? (i := 898) (by decide +kernel)⟩
theorem clL_81 : sv_cV RL 81 MX5_cause 3 := ⟨⟨ckX5_cause.1, ckX5_cause.2.1, ckX5_cause.2.2.1, ckX5_cause.2.2.2, Or.inl (List.mem_of_getElem? (i := 900) (by decide +kernel))⟩, List.mem_of_getElem? (i := 901) (by decide +kernel), List.mem_of_getElem? (i := 902) (by decide +kernel)⟩
theorem clL_85 : sv_cV RL 85 MX5_apart 2 := ⟨⟨ckX5_apart.1, ckX5_apart.2.1, ckX5_apart.2.2.1, ckX5_apart.2.2.2, Or.inl (List.mem_of_getElem? (i := 904) (by decide +kernel))⟩, List.mem_of_getElem? (i := 905) (by decide +kernel), List.mem_of_getElem? (i := 906) (by decide +kernel)⟩
theorem clL_89 : sv_cV RL 89 MX5_fork 2 := ⟨⟨ckX5_fork.1, ckX5_fork.2.1, ckX5_fork.2.2.1, ckX5_fork.2.2.2, Or.inl (List.mem_of_getElem? (i := 908) (by decide +kernel))⟩, List.mem_of_getElem? (i := 909) (by decide +kernel), List.mem_of_getElem? (i := 910) (by decide +kernel)⟩
theorem clX5_185 : sv_cV RX5 185 MX5_isInChain 1 := ⟨⟨ckX5_isInChain.1, ckX5_isInChain.2.1, ckX5_isInChain.2.2.1, ckX5_isInChain.2.2.2, Or.inl (List.mem_of_getElem? (i := 912) (by decide +kernel))⟩, List.mem_of_getElem? (i := 914) (by decide +kernel), List.mem_of_getElem? (i := 84) (by decide +kernel)⟩
theorem clL_93 : sv_cV RL 93 MX5_nearest 0 := ⟨⟨ckX5_nearest.1, ckX5_nearest.2.1, ckX5_nearest.2.2.1, ckX5_nearest.2.2.2, Or.inl (List.mem_of_getElem? (i := 916) (by decide +kernel))⟩, List.mem_of_getElem? (i := 917) (by decide +kernel), List.mem_of_getElem? (i := 918) (by decide +kernel)⟩
theorem clL_97 : sv_cV RL 97 MX5_count 1 := ⟨⟨ckX5_count.1, ckX5_count.2.1, ckX5_count.2.2.1, ckX5_count.2.2.2, Or.inl (List.mem_of_getElem? (i := 920) (by decide +kernel))⟩, List.mem_of_getElem? (i := 921) (by decide +kernel), List.mem_of_getElem? (i := 922) (by decide +kernel)⟩
theorem clX5_188 : sv_cV RX5 188 MX5_counts 1 := ⟨⟨ckX5_counts.1, ckX5_counts.2.1, ckX5_counts.2.2.1, ckX5_counts.2.2.2, Or.inl (List.mem_of_getElem? (i := 924) (by decide +kernel))⟩, List.mem_of_getElem? (i := 926) (by decide +kernel), List.mem_of_getElem? (i := 85) (by decide +kernel)⟩
theorem clX5_191 : sv_cV RX5 191 MX5_longest 0 := ⟨⟨ckX5_longest.1, ckX5_longest.2.1, ckX5_longest.2.2.1, ckX5_longest.2.2.2, Or.inl (List.mem_of_getElem? (i := 928) (by decide +kernel))⟩, List.mem_of_getElem? (i := 930) (by decide +kernel), List.mem_of_getElem? (i := 86) (by decide +kernel)⟩
theorem clL_102 : sv_cV RL 102 MX5_digest 0 := ⟨⟨ckX5_digest.1, ckX5_digest.2.1, ckX5_digest.2.2.1, ckX5_digest.2.2.2, Or.inl (List.mem_of_getElem? (i := 932) (by decide +kernel))⟩, List.mem_of_getElem? (i := 933) (by decide +kernel), List.mem_of_getElem? (i := 934) (by decide +kernel)⟩
theorem clX5_210 : sv_cV RX5 210 MX5_count 1 := ⟨⟨ckX5_count.1, ckX5_count.2.1, ckX5_count.2.2.1, ckX5_count.2.2.2, Or.inl (List.mem_of_getElem? (i := 937) (by decide +kernel))⟩, List.mem_of_getElem? (i := 921) (by decide +kernel), List.mem_of_getElem? (i := 922) (by decide +kernel)⟩
theorem clX5_200 : sv_cV RX5 200 MX5_mixes 1 := ⟨⟨ckX5_mixes.1, ckX5_mixes.2.1, ckX5_mixes.2.2.1, ckX5_mixes.2.2.2, Or.inl (List.mem_of_getElem? (i := 938) (by decide +kernel))⟩, List.mem_of_getElem? (i := 940) (by decide +kernel), List.mem_of_getElem? (i := 87) (by decide +kernel)⟩
theorem clX5_213 : sv_cV RX5 213 MX5_mixesKept 1 := ⟨⟨ckX5_mixesKept.1, ckX5_mixesKept.2.1, ckX5_mixesKept.2.2.1, ckX5_mixesKept.2.2.2, Or.inl (List.mem_of_getElem? (i := 943) (by decide +kernel))⟩, List.mem_of_getElem? (i := 945) (by decide +kernel), List.mem_of_getElem? (i := 88) (by decide +kernel)⟩
theorem clX5_204 : sv_cV RX5 204 MX5_cause 3 := ⟨⟨ckX5_cause.1, ckX5_cause.2.1, ckX5_cause.2.2.1, ckX5_cause.2.2.2, Or.inl (List.mem_of_getElem? (i := 947) (by decide +kernel))⟩, List.mem_of_getElem? (i := 901) (by decide +kernel), List.mem_of_getElem? (i := 902) (by decide +kernel)⟩
theorem clX5_216 : sv_cV RX5 216 MX5_nearest 0 := ⟨⟨ckX5_nearest.1, ckX5_nearest.2.1, ckX5_nearest.2.2.1, ckX5_nearest.2.2.2, Or.inl (List.mem_of_getElem? (i := 948) (by decide +kernel))⟩, List.mem_of_getElem? (i := 917) (by decide +kernel), List.mem_of_getElem? (i := 918) (by decide +kernel)⟩
end
