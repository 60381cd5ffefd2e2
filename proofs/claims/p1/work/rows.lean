section
-- ===== PART A: goes FIRST, ahead of the names: the tables' words, and 'selects' of the private methods out of them =====
/-- a private method of a class that the tables say can be made, by its rows of tables_1 -/
def lw_okq (q : MethodName × Nat) : Prop := (q.1.cls ≠ "java/lang/invoke/MethodHandle" ∧ q.1.cls ≠ "java/lang/invoke/VarHandle") ∧ Cond.instantiable q.1.cls q.2 ∈ tables_1 ∧ Cond.privateMethod q.1 ∈ tables_1 ∧ Cond.instanceMethod q.1 ∈ tables_1
theorem lw_p0 : lw_okq (⟨"StopSetter", "firstPlaceOf", "(I)I"⟩, 10) := ⟨⟨by decide +kernel, by decide +kernel⟩, List.mem_of_getElem? (i := 18) (by decide +kernel), List.mem_of_getElem? (i := 208) (by decide +kernel), List.mem_of_getElem? (i := 209) (by decide +kernel)⟩
theorem lw_p1 : lw_okq (⟨"StopSetter", "wordAt", "(I)I"⟩, 10) := ⟨⟨by decide +kernel, by decide +kernel⟩, List.mem_of_getElem? (i := 18) (by decide +kernel), List.mem_of_getElem? (i := 212) (by decide +kernel), List.mem_of_getElem? (i := 213) (by decide +kernel)⟩
theorem lw_p2 : lw_okq (⟨"StopSetter", "hasPlace", "(I)Z"⟩, 10) := ⟨⟨by decide +kernel, by decide +kernel⟩, List.mem_of_getElem? (i := 18) (by decide +kernel), List.mem_of_getElem? (i := 216) (by decide +kernel), List.mem_of_getElem? (i := 217) (by decide +kernel)⟩
theorem lw_p3 : lw_okq (⟨"StopSetter$Tape", "addSign", "(I)V"⟩, 2) := ⟨⟨by decide +kernel, by decide +kernel⟩, List.mem_of_getElem? (i := 26) (by decide +kernel), List.mem_of_getElem? (i := 248) (by decide +kernel), List.mem_of_getElem? (i := 249) (by decide +kernel)⟩
theorem lw_p4 : lw_okq (⟨"StopSetter$Reader", "advance", "()V"⟩, 5) := ⟨⟨by decide +kernel, by decide +kernel⟩, List.mem_of_getElem? (i := 44) (by decide +kernel), List.mem_of_getElem? (i := 264) (by decide +kernel), List.mem_of_getElem? (i := 265) (by decide +kernel)⟩
theorem lw_p5 : lw_okq (⟨"StopSetter$Reader", "runEnd", "(II)I"⟩, 5) := ⟨⟨by decide +kernel, by decide +kernel⟩, List.mem_of_getElem? (i := 44) (by decide +kernel), List.mem_of_getElem? (i := 268) (by decide +kernel), List.mem_of_getElem? (i := 269) (by decide +kernel)⟩
theorem lw_p6 : lw_okq (⟨"StopSetter$Reader", "isText", "(Ljava/lang/String;)Z"⟩, 5) := ⟨⟨by decide +kernel, by decide +kernel⟩, List.mem_of_getElem? (i := 44) (by decide +kernel), List.mem_of_getElem? (i := 280) (by decide +kernel), List.mem_of_getElem? (i := 281) (by decide +kernel)⟩
theorem lw_p7 : lw_okq (⟨"StopSetter$Reader", "readGo", "(LStopSetter$Grammar;)V"⟩, 5) := ⟨⟨by decide +kernel, by decide +kernel⟩, List.mem_of_getElem? (i := 44) (by decide +kernel), List.mem_of_getElem? (i := 332) (by decide +kernel), List.mem_of_getElem? (i := 333) (by decide +kernel)⟩
theorem lw_p8 : lw_okq (⟨"StopSetter$Reader", "refuse", "(I)V"⟩, 5) := ⟨⟨by decide +kernel, by decide +kernel⟩, List.mem_of_getElem? (i := 44) (by decide +kernel), List.mem_of_getElem? (i := 336) (by decide +kernel), List.mem_of_getElem? (i := 337) (by decide +kernel)⟩
theorem lw_p9 : lw_okq (⟨"StopSetter$Reader", "readNumber", "(I)I"⟩, 5) := ⟨⟨by decide +kernel, by decide +kernel⟩, List.mem_of_getElem? (i := 44) (by decide +kernel), List.mem_of_getElem? (i := 340) (by decide +kernel), List.mem_of_getElem? (i := 341) (by decide +kernel)⟩
theorem lw_p10 : lw_okq (⟨"StopSetter$Reader", "numberHere", "()I"⟩, 5) := ⟨⟨by decide +kernel, by decide +kernel⟩, List.mem_of_getElem? (i := 44) (by decide +kernel), List.mem_of_getElem? (i := 344) (by decide +kernel), List.mem_of_getElem? (i := 345) (by decide +kernel)⟩
theorem lw_p11 : lw_okq (⟨"StopSetter$Reader", "passIf", "(Z)V"⟩, 5) := ⟨⟨by decide +kernel, by decide +kernel⟩, List.mem_of_getElem? (i := 44) (by decide +kernel), List.mem_of_getElem? (i := 349) (by decide +kernel), List.mem_of_getElem? (i := 350) (by decide +kernel)⟩
theorem lw_p12 : lw_okq (⟨"StopSetter$Reader", "goMarkHere", "()I"⟩, 5) := ⟨⟨by decide +kernel, by decide +kernel⟩, List.mem_of_getElem? (i := 44) (by decide +kernel), List.mem_of_getElem? (i := 356) (by decide +kernel), List.mem_of_getElem? (i := 357) (by decide +kernel)⟩
theorem lw_p13 : lw_okq (⟨"StopSetter$Reader", "readEnd", "(LStopSetter$Grammar;)V"⟩, 5) := ⟨⟨by decide +kernel, by decide +kernel⟩, List.mem_of_getElem? (i := 44) (by decide +kernel), List.mem_of_getElem? (i := 368) (by decide +kernel), List.mem_of_getElem? (i := 369) (by decide +kernel)⟩
theorem lw_p14 : lw_okq (⟨"StopSetter$Reader", "endMarkHere", "()I"⟩, 5) := ⟨⟨by decide +kernel, by decide +kernel⟩, List.mem_of_getElem? (i := 44) (by decide +kernel), List.mem_of_getElem? (i := 372) (by decide +kernel), List.mem_of_getElem? (i := 373) (by decide +kernel)⟩
theorem lw_p15 : lw_okq (⟨"StopSetter$Grammar", "setHopeful", "(I)V"⟩, 11) := ⟨⟨by decide +kernel, by decide +kernel⟩, List.mem_of_getElem? (i := 66) (by decide +kernel), List.mem_of_getElem? (i := 398) (by decide +kernel), List.mem_of_getElem? (i := 399) (by decide +kernel)⟩
def lw_privs_1 : List (MethodName × Nat) := [(⟨"StopSetter", "firstPlaceOf", "(I)I"⟩, 10), (⟨"StopSetter", "wordAt", "(I)I"⟩, 10), (⟨"StopSetter", "hasPlace", "(I)Z"⟩, 10), (⟨"StopSetter$Tape", "addSign", "(I)V"⟩, 2), (⟨"StopSetter$Reader", "advance", "()V"⟩, 5), (⟨"StopSetter$Reader", "runEnd", "(II)I"⟩, 5), (⟨"StopSetter$Reader", "isText", "(Ljava/lang/String;)Z"⟩, 5), (⟨"StopSetter$Reader", "readGo", "(LStopSetter$Grammar;)V"⟩, 5), (⟨"StopSetter$Reader", "refuse", "(I)V"⟩, 5), (⟨"StopSetter$Reader", "readNumber", "(I)I"⟩, 5), (⟨"StopSetter$Reader", "numberHere", "()I"⟩, 5), (⟨"StopSetter$Reader", "passIf", "(Z)V"⟩, 5), (⟨"StopSetter$Reader", "goMarkHere", "()I"⟩, 5), (⟨"StopSetter$Reader", "readEnd", "(LStopSetter$Grammar;)V"⟩, 5), (⟨"StopSetter$Reader", "endMarkHere", "()I"⟩, 5), (⟨"StopSetter$Grammar", "setHopeful", "(I)V"⟩, 11)]
theorem lw_r1 : ∀ q ∈ lw_privs_1, lw_okq q := List.forall_mem_cons.mpr ⟨lw_p0, List.forall_mem_cons.mpr ⟨lw_p1, List.forall_mem_cons.mpr ⟨lw_p2, List.forall_mem_cons.mpr ⟨lw_p3, List.forall_mem_cons.mpr ⟨lw_p4, List.forall_mem_cons.mpr ⟨lw_p5, List.forall_mem_cons.mpr ⟨lw_p6, List.forall_mem_cons.mpr ⟨lw_p7, List.forall_mem_cons.mpr ⟨lw_p8, List.forall_mem_cons.mpr ⟨lw_p9, List.forall_mem_cons.mpr ⟨lw_p10, List.forall_mem_cons.mpr ⟨lw_p11, List.forall_mem_cons.mpr ⟨lw_p12, List.forall_mem_cons.mpr ⟨lw_p13, List.forall_mem_cons.mpr ⟨lw_p14, List.forall_mem_cons.mpr ⟨lw_p15, fun _ h => absurd h List.not_mem_nil⟩⟩⟩⟩⟩⟩⟩⟩⟩⟩⟩⟩⟩⟩⟩⟩
theorem lw_p16 : lw_okq (⟨"StopSetter$Grammar", "passHopeBack", "(II)V"⟩, 11) := ⟨⟨by decide +kernel, by decide +kernel⟩, List.mem_of_getElem? (i := 66) (by decide +kernel), List.mem_of_getElem? (i := 402) (by decide +kernel), List.mem_of_getElem? (i := 403) (by decide +kernel)⟩
theorem lw_p17 : lw_okq (⟨"StopSetter", "solve", "()V"⟩, 10) := ⟨⟨by decide +kernel, by decide +kernel⟩, List.mem_of_getElem? (i := 18) (by decide +kernel), List.mem_of_getElem? (i := 423) (by decide +kernel), List.mem_of_getElem? (i := 424) (by decide +kernel)⟩
theorem lw_p18 : lw_okq (⟨"StopSetter$Chart", "isReached", "(I)Z"⟩, 12) := ⟨⟨by decide +kernel, by decide +kernel⟩, List.mem_of_getElem? (i := 118) (by decide +kernel), List.mem_of_getElem? (i := 434) (by decide +kernel), List.mem_of_getElem? (i := 435) (by decide +kernel)⟩
theorem lw_p19 : lw_okq (⟨"StopSetter$Chart", "stepFrom", "(ILStopSetter$Grammar;II)V"⟩, 12) := ⟨⟨by decide +kernel, by decide +kernel⟩, List.mem_of_getElem? (i := 118) (by decide +kernel), List.mem_of_getElem? (i := 438) (by decide +kernel), List.mem_of_getElem? (i := 439) (by decide +kernel)⟩
theorem lw_p20 : lw_okq (⟨"StopSetter$Chart", "goFrom", "(IILStopSetter$Grammar;II)V"⟩, 12) := ⟨⟨by decide +kernel, by decide +kernel⟩, List.mem_of_getElem? (i := 118) (by decide +kernel), List.mem_of_getElem? (i := 442) (by decide +kernel), List.mem_of_getElem? (i := 443) (by decide +kernel)⟩
theorem lw_p21 : lw_okq (⟨"StopSetter$Chart", "offer", "(IIIII)V"⟩, 12) := ⟨⟨by decide +kernel, by decide +kernel⟩, List.mem_of_getElem? (i := 118) (by decide +kernel), List.mem_of_getElem? (i := 461) (by decide +kernel), List.mem_of_getElem? (i := 462) (by decide +kernel)⟩
theorem lw_p22 : lw_okq (⟨"StopSetter$Chart", "rankLevel", "()V"⟩, 12) := ⟨⟨by decide +kernel, by decide +kernel⟩, List.mem_of_getElem? (i := 118) (by decide +kernel), List.mem_of_getElem? (i := 472) (by decide +kernel), List.mem_of_getElem? (i := 473) (by decide +kernel)⟩
theorem lw_p23 : lw_okq (⟨"StopSetter$Chart", "waysAheadOf", "(I)I"⟩, 12) := ⟨⟨by decide +kernel, by decide +kernel⟩, List.mem_of_getElem? (i := 118) (by decide +kernel), List.mem_of_getElem? (i := 476) (by decide +kernel), List.mem_of_getElem? (i := 477) (by decide +kernel)⟩
theorem lw_p24 : lw_okq (⟨"StopSetter$Chart", "offerLast", "(III)V"⟩, 12) := ⟨⟨by decide +kernel, by decide +kernel⟩, List.mem_of_getElem? (i := 118) (by decide +kernel), List.mem_of_getElem? (i := 485) (by decide +kernel), List.mem_of_getElem? (i := 486) (by decide +kernel)⟩
theorem lw_p25 : lw_okq (⟨"StopSetter$Chart", "meetingLevel", "(II)I"⟩, 12) := ⟨⟨by decide +kernel, by decide +kernel⟩, List.mem_of_getElem? (i := 118) (by decide +kernel), List.mem_of_getElem? (i := 526) (by decide +kernel), List.mem_of_getElem? (i := 527) (by decide +kernel)⟩
theorem lw_p26 : lw_okq (⟨"StopSetter", "handMarks", "()I"⟩, 10) := ⟨⟨by decide +kernel, by decide +kernel⟩, List.mem_of_getElem? (i := 18) (by decide +kernel), List.mem_of_getElem? (i := 539) (by decide +kernel), List.mem_of_getElem? (i := 540) (by decide +kernel)⟩
theorem lw_p27 : lw_okq (⟨"java/lang/Throwable", "fillInStackTrace", "(I)Ljava/lang/Throwable;"⟩, 6) := ⟨⟨by decide +kernel, by decide +kernel⟩, List.mem_of_getElem? (i := 587) (by decide +kernel), List.mem_of_getElem? (i := 585) (by decide +kernel), List.mem_of_getElem? (i := 586) (by decide +kernel)⟩
theorem lw_p28 : lw_okq (⟨"StopSetter", "isRaised", "(III)Z"⟩, 10) := ⟨⟨by decide +kernel, by decide +kernel⟩, List.mem_of_getElem? (i := 18) (by decide +kernel), List.mem_of_getElem? (i := 629) (by decide +kernel), List.mem_of_getElem? (i := 630) (by decide +kernel)⟩
theorem lw_p29 : lw_okq (⟨"StopSetterModel", "lay", "(J)V"⟩, 30) := ⟨⟨by decide +kernel, by decide +kernel⟩, List.mem_of_getElem? (i := 645) (by decide +kernel), List.mem_of_getElem? (i := 643) (by decide +kernel), List.mem_of_getElem? (i := 644) (by decide +kernel)⟩
theorem lw_p30 : lw_okq (⟨"StopSetterModel", "cutAll", "()V"⟩, 30) := ⟨⟨by decide +kernel, by decide +kernel⟩, List.mem_of_getElem? (i := 645) (by decide +kernel), List.mem_of_getElem? (i := 761) (by decide +kernel), List.mem_of_getElem? (i := 762) (by decide +kernel)⟩
theorem lw_p31 : lw_okq (⟨"StopSetterModel", "isWord", "(I)Z"⟩, 30) := ⟨⟨by decide +kernel, by decide +kernel⟩, List.mem_of_getElem? (i := 645) (by decide +kernel), List.mem_of_getElem? (i := 780) (by decide +kernel), List.mem_of_getElem? (i := 781) (by decide +kernel)⟩
def lw_privs_2 : List (MethodName × Nat) := [(⟨"StopSetter$Grammar", "passHopeBack", "(II)V"⟩, 11), (⟨"StopSetter", "solve", "()V"⟩, 10), (⟨"StopSetter$Chart", "isReached", "(I)Z"⟩, 12), (⟨"StopSetter$Chart", "stepFrom", "(ILStopSetter$Grammar;II)V"⟩, 12), (⟨"StopSetter$Chart", "goFrom", "(IILStopSetter$Grammar;II)V"⟩, 12), (⟨"StopSetter$Chart", "offer", "(IIIII)V"⟩, 12), (⟨"StopSetter$Chart", "rankLevel", "()V"⟩, 12), (⟨"StopSetter$Chart", "waysAheadOf", "(I)I"⟩, 12), (⟨"StopSetter$Chart", "offerLast", "(III)V"⟩, 12), (⟨"StopSetter$Chart", "meetingLevel", "(II)I"⟩, 12), (⟨"StopSetter", "handMarks", "()I"⟩, 10), (⟨"java/lang/Throwable", "fillInStackTrace", "(I)Ljava/lang/Throwable;"⟩, 6), (⟨"StopSetter", "isRaised", "(III)Z"⟩, 10), (⟨"StopSetterModel", "lay", "(J)V"⟩, 30), (⟨"StopSetterModel", "cutAll", "()V"⟩, 30), (⟨"StopSetterModel", "isWord", "(I)Z"⟩, 30)]
theorem lw_r2 : ∀ q ∈ lw_privs_2, lw_okq q := List.forall_mem_cons.mpr ⟨lw_p16, List.forall_mem_cons.mpr ⟨lw_p17, List.forall_mem_cons.mpr ⟨lw_p18, List.forall_mem_cons.mpr ⟨lw_p19, List.forall_mem_cons.mpr ⟨lw_p20, List.forall_mem_cons.mpr ⟨lw_p21, List.forall_mem_cons.mpr ⟨lw_p22, List.forall_mem_cons.mpr ⟨lw_p23, List.forall_mem_cons.mpr ⟨lw_p24, List.forall_mem_cons.mpr ⟨lw_p25, List.forall_mem_cons.mpr ⟨lw_p26, List.forall_mem_cons.mpr ⟨lw_p27, List.forall_mem_cons.mpr ⟨lw_p28, List.forall_mem_cons.mpr ⟨lw_p29, List.forall_mem_cons.mpr ⟨lw_p30, List.forall_mem_cons.mpr ⟨lw_p31, fun _ h => absurd h List.not_mem_nil⟩⟩⟩⟩⟩⟩⟩⟩⟩⟩⟩⟩⟩⟩⟩⟩
theorem lw_p32 : lw_okq (⟨"StopSetterModel", "readGo", "()V"⟩, 30) := ⟨⟨by decide +kernel, by decide +kernel⟩, List.mem_of_getElem? (i := 645) (by decide +kernel), List.mem_of_getElem? (i := 784) (by decide +kernel), List.mem_of_getElem? (i := 785) (by decide +kernel)⟩
theorem lw_p33 : lw_okq (⟨"StopSetterModel", "wrong", "(I)V"⟩, 30) := ⟨⟨by decide +kernel, by decide +kernel⟩, List.mem_of_getElem? (i := 645) (by decide +kernel), List.mem_of_getElem? (i := 788) (by decide +kernel), List.mem_of_getElem? (i := 789) (by decide +kernel)⟩
theorem lw_p34 : lw_okq (⟨"StopSetterModel", "takeNumber", "(II)I"⟩, 30) := ⟨⟨by decide +kernel, by decide +kernel⟩, List.mem_of_getElem? (i := 645) (by decide +kernel), List.mem_of_getElem? (i := 792) (by decide +kernel), List.mem_of_getElem? (i := 793) (by decide +kernel)⟩
theorem lw_p35 : lw_okq (⟨"StopSetterModel", "takeWord", "(I)V"⟩, 30) := ⟨⟨by decide +kernel, by decide +kernel⟩, List.mem_of_getElem? (i := 645) (by decide +kernel), List.mem_of_getElem? (i := 796) (by decide +kernel), List.mem_of_getElem? (i := 797) (by decide +kernel)⟩
theorem lw_p36 : lw_okq (⟨"StopSetterModel", "hasWord", "(I)Z"⟩, 30) := ⟨⟨by decide +kernel, by decide +kernel⟩, List.mem_of_getElem? (i := 645) (by decide +kernel), List.mem_of_getElem? (i := 800) (by decide +kernel), List.mem_of_getElem? (i := 801) (by decide +kernel)⟩
theorem lw_p37 : lw_okq (⟨"StopSetterModel", "takeOneOf", "(I)I"⟩, 30) := ⟨⟨by decide +kernel, by decide +kernel⟩, List.mem_of_getElem? (i := 645) (by decide +kernel), List.mem_of_getElem? (i := 804) (by decide +kernel), List.mem_of_getElem? (i := 805) (by decide +kernel)⟩
theorem lw_p38 : lw_okq (⟨"StopSetterModel", "takeSign", "(I)V"⟩, 30) := ⟨⟨by decide +kernel, by decide +kernel⟩, List.mem_of_getElem? (i := 645) (by decide +kernel), List.mem_of_getElem? (i := 808) (by decide +kernel), List.mem_of_getElem? (i := 809) (by decide +kernel)⟩
theorem lw_p39 : lw_okq (⟨"StopSetterModel", "isSign", "(I)Z"⟩, 30) := ⟨⟨by decide +kernel, by decide +kernel⟩, List.mem_of_getElem? (i := 645) (by decide +kernel), List.mem_of_getElem? (i := 812) (by decide +kernel), List.mem_of_getElem? (i := 813) (by decide +kernel)⟩
theorem lw_p40 : lw_okq (⟨"StopSetterModel", "readEnd", "()V"⟩, 30) := ⟨⟨by decide +kernel, by decide +kernel⟩, List.mem_of_getElem? (i := 645) (by decide +kernel), List.mem_of_getElem? (i := 816) (by decide +kernel), List.mem_of_getElem? (i := 817) (by decide +kernel)⟩
theorem lw_p41 : lw_okq (⟨"StopSetterModel", "goOf", "(II)I"⟩, 30) := ⟨⟨by decide +kernel, by decide +kernel⟩, List.mem_of_getElem? (i := 645) (by decide +kernel), List.mem_of_getElem? (i := 824) (by decide +kernel), List.mem_of_getElem? (i := 825) (by decide +kernel)⟩
theorem lw_p42 : lw_okq (⟨"StopSetterModel", "parts", "()Z"⟩, 30) := ⟨⟨by decide +kernel, by decide +kernel⟩, List.mem_of_getElem? (i := 645) (by decide +kernel), List.mem_of_getElem? (i := 855) (by decide +kernel), List.mem_of_getElem? (i := 856) (by decide +kernel)⟩
theorem lw_p43 : lw_okq (⟨"StopSetterModel", "laysOutEnds", "()V"⟩, 30) := ⟨⟨by decide +kernel, by decide +kernel⟩, List.mem_of_getElem? (i := 645) (by decide +kernel), List.mem_of_getElem? (i := 859) (by decide +kernel), List.mem_of_getElem? (i := 860) (by decide +kernel)⟩
theorem lw_p44 : lw_okq (⟨"StopSetterModel", "endOf", "(II)I"⟩, 30) := ⟨⟨by decide +kernel, by decide +kernel⟩, List.mem_of_getElem? (i := 645) (by decide +kernel), List.mem_of_getElem? (i := 864) (by decide +kernel), List.mem_of_getElem? (i := 865) (by decide +kernel)⟩
theorem lw_p45 : lw_okq (⟨"StopSetterModel", "offers", "(II)V"⟩, 30) := ⟨⟨by decide +kernel, by decide +kernel⟩, List.mem_of_getElem? (i := 645) (by decide +kernel), List.mem_of_getElem? (i := 868) (by decide +kernel), List.mem_of_getElem? (i := 869) (by decide +kernel)⟩
theorem lw_p46 : lw_okq (⟨"StopSetterModel", "laysOut", "()V"⟩, 30) := ⟨⟨by decide +kernel, by decide +kernel⟩, List.mem_of_getElem? (i := 645) (by decide +kernel), List.mem_of_getElem? (i := 872) (by decide +kernel), List.mem_of_getElem? (i := 873) (by decide +kernel)⟩
theorem lw_p47 : lw_okq (⟨"StopSetterModel", "stepTo", "(IIII)I"⟩, 30) := ⟨⟨by decide +kernel, by decide +kernel⟩, List.mem_of_getElem? (i := 645) (by decide +kernel), List.mem_of_getElem? (i := 876) (by decide +kernel), List.mem_of_getElem? (i := 877) (by decide +kernel)⟩
def lw_privs_3 : List (MethodName × Nat) := [(⟨"StopSetterModel", "readGo", "()V"⟩, 30), (⟨"StopSetterModel", "wrong", "(I)V"⟩, 30), (⟨"StopSetterModel", "takeNumber", "(II)I"⟩, 30), (⟨"StopSetterModel", "takeWord", "(I)V"⟩, 30), (⟨"StopSetterModel", "hasWord", "(I)Z"⟩, 30), (⟨"StopSetterModel", "takeOneOf", "(I)I"⟩, 30), (⟨"StopSetterModel", "takeSign", "(I)V"⟩, 30), (⟨"StopSetterModel", "isSign", "(I)Z"⟩, 30), (⟨"StopSetterModel", "readEnd", "()V"⟩, 30), (⟨"StopSetterModel", "goOf", "(II)I"⟩, 30), (⟨"StopSetterModel", "parts", "()Z"⟩, 30), (⟨"StopSetterModel", "laysOutEnds", "()V"⟩, 30), (⟨"StopSetterModel", "endOf", "(II)I"⟩, 30), (⟨"StopSetterModel", "offers", "(II)V"⟩, 30), (⟨"StopSetterModel", "laysOut", "()V"⟩, 30), (⟨"StopSetterModel", "stepTo", "(IIII)I"⟩, 30)]
theorem lw_r3 : ∀ q ∈ lw_privs_3, lw_okq q := List.forall_mem_cons.mpr ⟨lw_p32, List.forall_mem_cons.mpr ⟨lw_p33, List.forall_mem_cons.mpr ⟨lw_p34, List.forall_mem_cons.mpr ⟨lw_p35, List.forall_mem_cons.mpr ⟨lw_p36, List.forall_mem_cons.mpr ⟨lw_p37, List.forall_mem_cons.mpr ⟨lw_p38, List.forall_mem_cons.mpr ⟨lw_p39, List.forall_mem_cons.mpr ⟨lw_p40, List.forall_mem_cons.mpr ⟨lw_p41, List.forall_mem_cons.mpr ⟨lw_p42, List.forall_mem_cons.mpr ⟨lw_p43, List.forall_mem_cons.mpr ⟨lw_p44, List.forall_mem_cons.mpr ⟨lw_p45, List.forall_mem_cons.mpr ⟨lw_p46, List.forall_mem_cons.mpr ⟨lw_p47, fun _ h => absurd h List.not_mem_nil⟩⟩⟩⟩⟩⟩⟩⟩⟩⟩⟩⟩⟩⟩⟩⟩
theorem lw_p48 : lw_okq (⟨"StopSetterModel", "costOf", "(II)I"⟩, 30) := ⟨⟨by decide +kernel, by decide +kernel⟩, List.mem_of_getElem? (i := 645) (by decide +kernel), List.mem_of_getElem? (i := 880) (by decide +kernel), List.mem_of_getElem? (i := 881) (by decide +kernel)⟩
theorem lw_p49 : lw_okq (⟨"StopSetterModel", "adds", "(III)V"⟩, 30) := ⟨⟨by decide +kernel, by decide +kernel⟩, List.mem_of_getElem? (i := 645) (by decide +kernel), List.mem_of_getElem? (i := 884) (by decide +kernel), List.mem_of_getElem? (i := 885) (by decide +kernel)⟩
theorem lw_p50 : lw_okq (⟨"StopSetterModel", "goesFrom", "()Z"⟩, 30) := ⟨⟨by decide +kernel, by decide +kernel⟩, List.mem_of_getElem? (i := 645) (by decide +kernel), List.mem_of_getElem? (i := 888) (by decide +kernel), List.mem_of_getElem? (i := 889) (by decide +kernel)⟩
theorem lw_p51 : lw_okq (⟨"StopSetterModel", "isRaised", "(I)Z"⟩, 30) := ⟨⟨by decide +kernel, by decide +kernel⟩, List.mem_of_getElem? (i := 645) (by decide +kernel), List.mem_of_getElem? (i := 900) (by decide +kernel), List.mem_of_getElem? (i := 901) (by decide +kernel)⟩
theorem lw_p52 : lw_okq (⟨"StopSetterModel", "findOut", "()V"⟩, 30) := ⟨⟨by decide +kernel, by decide +kernel⟩, List.mem_of_getElem? (i := 645) (by decide +kernel), List.mem_of_getElem? (i := 916) (by decide +kernel), List.mem_of_getElem? (i := 917) (by decide +kernel)⟩
theorem lw_p53 : lw_okq (⟨"StopSetterModel", "leadsOut", "(II)Z"⟩, 30) := ⟨⟨by decide +kernel, by decide +kernel⟩, List.mem_of_getElem? (i := 645) (by decide +kernel), List.mem_of_getElem? (i := 920) (by decide +kernel), List.mem_of_getElem? (i := 921) (by decide +kernel)⟩
theorem lw_p54 : lw_okq (⟨"StopSetterModel", "keeps", "()I"⟩, 30) := ⟨⟨by decide +kernel, by decide +kernel⟩, List.mem_of_getElem? (i := 645) (by decide +kernel), List.mem_of_getElem? (i := 924) (by decide +kernel), List.mem_of_getElem? (i := 925) (by decide +kernel)⟩
theorem lw_p55 : lw_okq (⟨"StopSetterModel", "alike", "(I)I"⟩, 30) := ⟨⟨by decide +kernel, by decide +kernel⟩, List.mem_of_getElem? (i := 645) (by decide +kernel), List.mem_of_getElem? (i := 928) (by decide +kernel), List.mem_of_getElem? (i := 929) (by decide +kernel)⟩
def lw_privs_4 : List (MethodName × Nat) := [(⟨"StopSetterModel", "costOf", "(II)I"⟩, 30), (⟨"StopSetterModel", "adds", "(III)V"⟩, 30), (⟨"StopSetterModel", "goesFrom", "()Z"⟩, 30), (⟨"StopSetterModel", "isRaised", "(I)Z"⟩, 30), (⟨"StopSetterModel", "findOut", "()V"⟩, 30), (⟨"StopSetterModel", "leadsOut", "(II)Z"⟩, 30), (⟨"StopSetterModel", "keeps", "()I"⟩, 30), (⟨"StopSetterModel", "alike", "(I)I"⟩, 30)]
theorem lw_r4 : ∀ q ∈ lw_privs_4, lw_okq q := List.forall_mem_cons.mpr ⟨lw_p48, List.forall_mem_cons.mpr ⟨lw_p49, List.forall_mem_cons.mpr ⟨lw_p50, List.forall_mem_cons.mpr ⟨lw_p51, List.forall_mem_cons.mpr ⟨lw_p52, List.forall_mem_cons.mpr ⟨lw_p53, List.forall_mem_cons.mpr ⟨lw_p54, List.forall_mem_cons.mpr ⟨lw_p55, fun _ h => absurd h List.not_mem_nil⟩⟩⟩⟩⟩⟩⟩⟩
def lw_privs : List (MethodName × Nat) := lw_privs_1 ++ (lw_privs_2 ++ (lw_privs_3 ++ (lw_privs_4)))
def lw_tbl : List Cond := k2_sels lw_privs ++ tables_1
theorem lw_privs_ok : ∀ q ∈ lw_privs, lw_okq q := by
  show ∀ q ∈ lw_privs_1 ++ (lw_privs_2 ++ (lw_privs_3 ++ (lw_privs_4))), lw_okq q
  exact List.forall_mem_append.mpr ⟨lw_r1, List.forall_mem_append.mpr ⟨lw_r2, List.forall_mem_append.mpr ⟨lw_r3, lw_r4⟩⟩⟩
-- ===== end of PART A; then your names; then what follows =====
end
section
/-! ===== BEGIN words of one list among another's, by their places ===== -/
theorem goodIn_r {big : List Cond} (ws : List Cond) (ps : List Nat) (hp : ws = ps.filterMap (fun i => big[i]?)) (h : ws.all goodWord = true) : GoodIn big ws := by
  intro w hw
  have h1 := List.all_eq_true.mp h w hw
  rw [hp] at hw
  obtain ⟨i, -, hi⟩ := List.mem_filterMap.mp hw
  have hm : w ∈ big := by first | exact List.mem_of_getElem? hi | exact List.getElem?_mem hi
  exact ⟨hm, good_of_word h1⟩
theorem goodIn_app {big a b : List Cond} (ha : GoodIn big a) (hb : GoodIn big b) : GoodIn big (a ++ b) := fun w h => (List.mem_append.mp h).elim (ha w) (hb w)
theorem goodIn_ca {big a b : List Cond} {c : Cond} (ha : GoodIn big (c :: a)) (hb : GoodIn big b) : GoodIn big (c :: (a ++ b)) := fun w h => (List.mem_cons.mp h).elim (fun e => ha w (List.mem_cons.mpr (Or.inl e))) (fun h => (List.mem_append.mp h).elim (fun h => ha w (List.mem_cons.mpr (Or.inr h))) (hb w))
theorem goodIn_sub {big ws : List Cond} (hm : ∀ w ∈ ws, w ∈ big) (h : ws.all goodWord = true) : GoodIn big ws := fun w hw => ⟨hm w hw, good_of_word (List.all_eq_true.mp h w hw)⟩
/-! ===== END ===== -/
end
section
/-! ===== BEGIN exceptions that leave a method, and their catching by the caller (launches without stack traces) ===== -/
section VXA
/-! The laws vx_back, vx_callV, vx_callS, vx_callSW, vx_throw0, vx_throwS follow proofs of the library, with one case more: JvmDerived/Free/Laws.lean (Back.of_free), Shelf42/LK1.lean (callV, callS), Shelf/KitTraced.lean (throwNew0V, throwNewS). -/

/-- where a method has thrown q: the class by its name, the cell, what was written, the world -/
def vx_T (XC : String → State → State → Prop) (st : State) (q : Addr) (t : State) (mc ms : Nat) (free : Addr → Prop) : Prop :=
  ∃ (E : String) (ce : Cell) (L : List Loc), XC E st t ∧ t.heap[q]? = some ce ∧ ce.vm = .none ∧ st.vm.findClass E = some ce.cls ∧ st.WarmedH t.vm ∧ st.sameButNew ({ t with vm := st.vm } : State) L mc ms ∧ ∀ z ∈ L, free z.base
def vx_Q (Qc : Array Value → State → Outcome → State → Prop) (XC : String → State → State → Prop) (mc ms : Nat) (free : Addr → Prop) : Array Value → State → Outcome → State → Prop := fun a st o t =>
  (Qc a st o t ∧ ∃ L, FrameEnd st o t L mc ms ∧ ∀ q ∈ L, free q.base) ∨ ∃ q, o = .threw q ∧ vx_T XC st q t mc ms free
/-- a callee that returns or throws -/
def vx_Met (l : Launch) (y : MethodName) (ws : List Cond) (rm : Room) (Pc : Array Value → State → Prop) (Qc : Array Value → State → Outcome → State → Prop) (XC : String → State → State → Prop) (mc ms : Nat) (free : Addr → Prop) : Prop :=
  MetFree l y (headSpec ws rm) Pc (fun _ _ _ _ _ => True) (vx_Q Qc XC mc ms free)
def vx_Post (XC : String → State → State → Prop) (mc ms : Nat) (free : Addr → Prop) : Pt → Array Value → Addr → Pt → Prop := fun A a q B =>
  ∃ (g : JFrame) (mk : MethodId) (t : State) (L : List Loc) (E : String) (ce : Cell), B.U.heap = t.heap ∧ B.U.vm = t.vm ∧ XC E (A.U.calling g mk a) t ∧ t.heap[q]? = some ce ∧ ce.vm = .none ∧ A.U.vm.findClass E = some ce.cls ∧ B.locs = A.locs ++ L ∧ (∀ z ∈ L, free z.base) ∧ B.cells = A.cells + mc ∧ B.slots = A.slots + ms
def vx_Back (l : Launch) (R : Room) (p : Program) (e : Env) (below : List Frame) (s : State) (sargs : Array Value) (y : MethodName) (len W9 : Nat)
    (Pre : Pt → Array Value → Prop) (Post : Pt → Array Value → Option Value → Pt → Prop) (PostX : Pt → Array Value → Addr → Pt → Prop) : Prop :=
  ∀ (m : MethodId) (meth : Method) (c : Code) (A : Pt) (g : JFrame) (ig : Instr) (mk : MethodId) (a : Array Value),
    Stand p l e R s m sargs below meth c A.U A.locs A.cells A.slots → g.method = m → g.locals.size = c.maxLocals → decode c.code g.pc = .ok (ig, len) →
    2 * g.monitorRoom + (g.stack.map fun v => v.category).sum ≤ W9 → A.U.methodNamed? y = some mk → Pre A a →
    (∃ (v : Option Value) (B : Pt), Stand p l e R s m sargs below meth c B.U B.locs B.cells B.slots ∧ Post A a v B ∧
      Steps p.tables e below (doInvoke e (A.U.setTop g) [] mk a).1 (B.U.setTop { g with pc := g.pc + len, stack := v.toList ++ g.stack })) ∨
    (∃ (q : Addr) (B : Pt), Stand p l e R s m sargs below meth c B.U B.locs B.cells B.slots ∧ PostX A a q B ∧
      Steps p.tables e below (doInvoke e (A.U.setTop g) [] mk a).1 ((B.U.setTop g).pushFrame (.throwing q)))
section Payer
variable {l : Launch} {R : Room} {p : Program} {e : Env} {below : List Frame} {s : State} {sargs : Array Value} {y : MethodName} {len W9 : Nat}
theorem vx_back {ws : List Cond} {rm : Room} {Pc : Array Value → State → Prop} {Qc : Array Value → State → Outcome → State → Prop} {XC : String → State → State → Prop} {mc ms : Nat} {free : Addr → Prop} {bytes : ByteArray} {maxL : Nat} {ret : Option FieldType}
    (hM : vx_Met l y ws rm Pc Qc XC mc ms free) (hblind : FrameBlind Pc) (hrc : rm.cells = mc) (hrs : rm.slots = ms)
    (hframes : rm.frames + 1 ≤ R.frames) (hlocals : W9 + (maxL + 11) + rm.locals ≤ R.locals)
    (hws : ∀ w ∈ ws, ∀ a' U, s.WarmedH U.vm → w.before a' U = true) (hcode : Cond.code y bytes maxL ret ∈ ws) (hinit : ∀ a' U, s.WarmedH U.vm → (Cond.initialized y.cls).before a' U = true) :
    vx_Back l R p e below s sargs y len W9 (PreOf R mc ms Pc) (PostOf Qc mc ms free) (vx_Post XC mc ms free) := by
  intro m meth c A g ig mk a X hg hsize hdg hW hn hp
  have h1 : (headSpec ws rm).pre.before a A.U = true := atoms_intro fun w hw => hws w hw _ _ X.warmed
  have h2 : (Cond.code y bytes maxL ret).before a A.U = true := hws _ hcode _ _ X.warmed
  have h3 : (Cond.initialized y.cls).before a A.U = true := hinit _ _ X.warmed
  have h4 : A.cells + (headSpec ws rm).room.cells ≤ R.cells := by rw [show (headSpec ws rm).room.cells = mc from hrc]; exact hp.1
  have h5 : A.slots + (headSpec ws rm).room.slots ≤ R.slots := by rw [show (headSpec ws rm).room.slots = ms from hrs]; exact hp.2.1
  have hPc : Pc a (A.U.calling g mk a) := hblind _ _ _ _ hp.2.2
  obtain ⟨U, Ls, c0, s0⟩ := A
  dsimp only [Pt.U, Pt.locs, Pt.cells, Pt.slots] at h1 h2 h3 h4 h5 X hn hPc ⊢
  obtain ⟨methY, cY, hmY, hcY, -, hlY, -, -, -, -⟩ := Cond.code_spec hn h2
  obtain ⟨kY, hkY, -⟩ := className_of_methodNamed hn
  have hinitY : kY.init = .initialized := Cond.initialized_spec (findClass_of_methodNamed hn) hkY h3
  have h : At U g.method c below := by rw [hg]; exact X.here
  have hlocals9 : W9 + (maxL + 11) + (headSpec ws rm).room.locals ≤ R.locals := hlocals
  have happ : (headSpec ws rm).appliesLoose y e.platform (U.calling g mk a) = true :=
    Spec.appliesLoose_calling (g := g) h hdg hn hkY hinitY
      (X.room_calling (g := g) (R' := (headSpec ws rm).room) hsize hmY hcY hframes (by rw [hlY]; omega) h4 h5) h1
  obtain ⟨mid, hmid⟩ := h.above
  have hfr : (U.setTop g).frames = (.java g :: mid) ++ below := by rw [State.frames_setTop' g h.top, hmid]; rfl
  obtain ⟨o, s₂, hsteps, -, hend, hq⟩ := Steps.callFree hM p X.admits X.cas X.clock (acts := []) hfr happ hPc trivial
  have hq' : vx_Q Qc XC mc ms free a (U.calling g mk a) o s₂ := hq
  rw [State.frames_setTop' g h.top] at hend
  obtain ⟨g₀, hg0⟩ := Option.isSome_iff_exists.mp h.top
  obtain ⟨r, hr⟩ := State.topJava?_eq_some.mp hg0
  have hr' : (({ U with heap := s₂.heap, slotsUsed := s₂.slotsUsed } : State).setVm s₂.vm).frames = .java g₀ :: r := hr
  rcases hq' with ⟨hqc, L, hfe, hL⟩ | ⟨q, rfl, E, ce, L, hx, hce, hcv, hcl, hW₂, hsm, hL⟩
  · obtain ⟨⟨v, rfl⟩, hW₂, e2, q2, q3, q4, q5, q6⟩ := id hfe
    have e3 : s₂ = ({ (U.calling g mk a).setFrames s₂.frames with heap := s₂.heap, slotsUsed := s₂.slotsUsed } : State).setVm s₂.vm := by
      have : s₂ = ({ s₂ with vm := (U.calling g mk a).vm } : State).setVm s₂.vm := rfl
      rw [e2] at this
      exact this
    obtain ⟨c₂, i₂, len₂, hc₂, hd₂, hf₂⟩ := hend
    have hW' : U.WarmedH s₂.vm := hW₂
    have hcc : c₂ = c := by
      have h1 : s₂.code? g.method = U.code? g.method := by
        rw [State.code?_eq, State.code?_eq, hW'.alike.method?]
      exact Option.some.inj (hc₂.symm.trans (h1.trans h.code))
    subst hcc
    have hlen : len₂ = len := by rw [hdg] at hd₂; cases hd₂; rfl
    subst hlen
    have hs₂ : s₂ = (({ U with heap := s₂.heap, slotsUsed := s₂.slotsUsed } : State).setVm s₂.vm).setTop { g with pc := g.pc + len₂, stack := v.toList ++ g.stack } := by
      refine e3.trans ?_
      rw [hf₂, State.calling_eq h.top, State.setFrames_setFrames, State.setTop_of_frames _ hr', hr]
      rfl
    have hsame : U.sameButNew ({ U with heap := s₂.heap, slotsUsed := s₂.slotsUsed } : State) L mc ms := by
      refine ⟨?_, q2, q3, q4, q5, q6⟩
      obtain ⟨t, ht, -⟩ := State.frames_cons hr
      show ({ U with heap := s₂.heap, slotsUsed := s₂.slotsUsed } : State) = { U.setFrames U.frames with heap := s₂.heap, slotsUsed := s₂.slotsUsed }
      rw [State.setFrames_self ht]
    subst hg
    refine Or.inl ⟨v, ⟨(({ U with heap := s₂.heap, slotsUsed := s₂.slotsUsed } : State).setVm s₂.vm), Ls ++ L, c0 + mc, s0 + ms⟩,
      ⟨X.admits, X.cas, X.clock, X.frames, X.room, X.hears, X.method, X.code, (X.here.setHeapUsed s₂.heap s₂.slotsUsed).setVm hW'.alike, X.tail, State.WarmedH.trans X.warmed hW', X.limits, X.bytes, X.same.trans (hsame.setVm s.vm)⟩,
      ⟨g, mk, s₂, L, rfl, rfl, hqc, rfl, hL, rfl, rfl⟩, ?_⟩
    show Steps p.tables e below _ ((({ U with heap := s₂.heap, slotsUsed := s₂.slotsUsed } : State).setVm s₂.vm).setTop { g with pc := g.pc + len₂, stack := v.toList ++ g.stack })
    rw [← hs₂]
    exact hsteps
  · obtain ⟨e2, q2, q3, q4, q5, q6⟩ := id hsm
    have e3 : s₂ = ({ (U.calling g mk a).setFrames s₂.frames with heap := s₂.heap, slotsUsed := s₂.slotsUsed } : State).setVm s₂.vm := by
      have : s₂ = ({ s₂ with vm := (U.calling g mk a).vm } : State).setVm s₂.vm := rfl
      rw [e2] at this
      exact this
    have hf₂ : s₂.frames = .throwing q :: .java g :: U.frames.tail := hend
    have hW' : U.WarmedH s₂.vm := hW₂
    have hs₂ : s₂ = ((({ U with heap := s₂.heap, slotsUsed := s₂.slotsUsed } : State).setVm s₂.vm).setTop g).pushFrame (.throwing q) := by
      refine e3.trans ?_
      rw [hf₂, State.calling_eq h.top, State.setFrames_setFrames, State.pushFrame, State.frames_setTop _ hr', State.setTop_of_frames _ hr', State.setFrames_setFrames, hr]
      rfl
    have hsame : U.sameButNew ({ U with heap := s₂.heap, slotsUsed := s₂.slotsUsed } : State) L mc ms := by
      refine ⟨?_, q2, q3, q4, q5, q6⟩
      obtain ⟨t, ht, -⟩ := State.frames_cons hr
      show ({ U with heap := s₂.heap, slotsUsed := s₂.slotsUsed } : State) = { U.setFrames U.frames with heap := s₂.heap, slotsUsed := s₂.slotsUsed }
      rw [State.setFrames_self ht]
    subst hg
    refine Or.inr ⟨q, ⟨(({ U with heap := s₂.heap, slotsUsed := s₂.slotsUsed } : State).setVm s₂.vm), Ls ++ L, c0 + mc, s0 + ms⟩,
      ⟨X.admits, X.cas, X.clock, X.frames, X.room, X.hears, X.method, X.code, (X.here.setHeapUsed s₂.heap s₂.slotsUsed).setVm hW'.alike, X.tail, State.WarmedH.trans X.warmed hW', X.limits, X.bytes, X.same.trans (hsame.setVm s.vm)⟩,
      ⟨g, mk, s₂, L, E, ce, rfl, rfl, hx, hce, hcv, hcl, rfl, hL, rfl, rfl⟩, ?_⟩
    show Steps p.tables e below _ (((({ U with heap := s₂.heap, slotsUsed := s₂.slotsUsed } : State).setVm s₂.vm).setTop g).pushFrame (.throwing q))
    rw [← hs₂]
    exact hsteps
end Payer
section Calls
variable {p : Program} {l : Launch} {e : Env} {R : Room} {s : State} {m : MethodId} {args : Array Value} {below : List Frame} {meth : Method} {c : Code} {T : State} {locs : List Loc} {cells slots : Nat}
theorem vx_callV (X : Stand p l e R s m args below meth c T locs cells slots) (hexec : p.tables.exec = Jvm.exec) {own C : String} {index : Nat} {y : MethodName} {bytes : ByteArray} {maxL : Nat} {ret : Option FieldType}
    (hown : s.vm.findClass own = some m.cls) (hlink : (Cond.methodLink own index y).before args s = true) (hinst : (Cond.instanceMethod y).before args s = true) (hsel : (Cond.selects C y y).before args s = true)
    (hcode : (Cond.code y bytes maxL ret).before args s = true) (hy : y.cls ≠ "java/lang/invoke/MethodHandle" ∧ y.cls ≠ "java/lang/invoke/VarHandle")
    {W9 : Nat} {Pre : Pt → Array Value → Prop} {Post : Pt → Array Value → Option Value → Pt → Prop} {PostX : Pt → Array Value → Addr → Pt → Prop} (hK : vx_Back l R p e below s args y 3 W9 Pre Post PostX)
    {b : Addr} {cellB : Cell} (hcell : T.heap[b]? = some cellB) (hobj : cellB.vm.isStatics = false) (hcls : s.vm.findClass C = some cellB.cls)
    {g : JFrame} (hg : g.method = m) (hsize : g.locals.size = c.maxLocals) {argsL rest : List Value} (hlen : ∀ sig, parseMethodDescriptor y.desc = some sig → argsL.length = sig.parameters.length)
    (hstack : g.stack = argsL.reverse ++ .ref b :: rest) (hW : 2 * g.monitorRoom + (rest.map fun v => v.category).sum ≤ W9) (hdg : decode c.code g.pc = .ok (.invokevirtual index, 3))
    (hpre : ∀ vm₁, s.WarmedH vm₁ → Pre ⟨T.setVm vm₁, locs, cells, slots⟩ (Value.ref b :: argsL).toArray) :
    (∃ (v : Option Value) (vm₁ : Vm) (B : Pt), s.WarmedH vm₁ ∧ Stand p l e R s m args below meth c B.U B.locs B.cells B.slots ∧ Post ⟨T.setVm vm₁, locs, cells, slots⟩ (Value.ref b :: argsL).toArray v B ∧
      ∀ target, Steps p.tables e below (B.U.setTop { g with pc := g.pc + 3, stack := v.toList ++ rest }) target → Steps p.tables e below (T.setTop g) target) ∨
    (∃ (q : Addr) (vm₁ : Vm) (B : Pt), s.WarmedH vm₁ ∧ Stand p l e R s m args below meth c B.U B.locs B.cells B.slots ∧ PostX ⟨T.setVm vm₁, locs, cells, slots⟩ (Value.ref b :: argsL).toArray q B ∧
      Steps p.tables e below (T.setTop g) ((B.U.setTop { g with stack := rest }).pushFrame (.throwing q))) := by
  obtain ⟨mk, methM, hnamed, hmethM, hstM, habM⟩ := Cond.instanceMethod_spec hinst
  obtain ⟨methM', cM, hmethM', -, -, -, -, -, -, hsigM⟩ := Cond.code_spec hnamed hcode
  cases hmethM.symm.trans hmethM'
  obtain ⟨c2, r2, m2, q1, q2, q3, q4, kP, hkP, hkPi⟩ := Cond.selects_spec hsel
  cases hcls.symm.trans q1
  cases (State.methodFound?_of_named hnamed hy).symm.trans q2
  cases hnamed.symm.trans q3
  have hselP : selectMethod e.platform s.vm cellB.cls mk = .method mk := by rw [Launch.admits_selectMethod X.admits]; exact q4
  obtain ⟨vm₁, X₁, hstep₁⟩ := X.invokevirtual hexec hown hlink hnamed hmethM hstM hkP hkPi hy (a := b) (cell := cellB) hcell
    (fun z h => by rw [h] at hobj; cases hobj) hselP hmethM habM hkP hkPi (g := g) hg (argsL := argsL) (rest := rest) (hlen _ hsigM) hstack hdg
  rcases hK m meth c ⟨T.setVm vm₁, locs, cells, slots⟩ { g with stack := rest } (.invokevirtual index) mk (Value.ref b :: argsL).toArray X₁ hg hsize hdg hW (X₁.named hnamed) (hpre vm₁ X₁.warmed) with ⟨v, B, X', hpost, hsteps⟩ | ⟨q, B, X', hpost, hsteps⟩
  · exact Or.inl ⟨v, vm₁, B, X₁.warmed, X', hpost, fun target h => hstep₁ _ fun acts => by rw [doInvoke_state]; exact hsteps.trans h⟩
  · exact Or.inr ⟨q, vm₁, B, X₁.warmed, X', hpost, hstep₁ _ fun acts => by rw [doInvoke_state]; exact hsteps⟩
theorem vx_callS (X : Stand p l e R s m args below meth c T locs cells slots) (hexec : p.tables.exec = Jvm.exec) {own : String} {index : Nat} {y : MethodName} {bytes : ByteArray} {maxL : Nat} {ret : Option FieldType}
    (hown : s.vm.findClass own = some m.cls) (hlink : (Cond.methodLink own index y).before args s = true) (hstat : (Cond.static y).before args s = true) (hinit : (Cond.initialized y.cls).before args s = true)
    (hcode : (Cond.code y bytes maxL ret).before args s = true) (hy : y.cls ≠ "java/lang/invoke/MethodHandle" ∧ y.cls ≠ "java/lang/invoke/VarHandle")
    {W9 : Nat} {Pre : Pt → Array Value → Prop} {Post : Pt → Array Value → Option Value → Pt → Prop} {PostX : Pt → Array Value → Addr → Pt → Prop} (hK : vx_Back l R p e below s args y 3 W9 Pre Post PostX)
    {g : JFrame} (hg : g.method = m) (hsize : g.locals.size = c.maxLocals) {argsL rest : List Value} (hlen : ∀ sig, parseMethodDescriptor y.desc = some sig → argsL.length = sig.parameters.length)
    (hstack : g.stack = argsL.reverse ++ rest) (hW : 2 * g.monitorRoom + (rest.map fun v => v.category).sum ≤ W9) (hdg : decode c.code g.pc = .ok (.invokestatic index, 3))
    (hpre : ∀ vm₁, s.WarmedH vm₁ → Pre ⟨T.setVm vm₁, locs, cells, slots⟩ argsL.toArray) :
    (∃ (v : Option Value) (vm₁ : Vm) (B : Pt), s.WarmedH vm₁ ∧ Stand p l e R s m args below meth c B.U B.locs B.cells B.slots ∧ Post ⟨T.setVm vm₁, locs, cells, slots⟩ argsL.toArray v B ∧
      ∀ target, Steps p.tables e below (B.U.setTop { g with pc := g.pc + 3, stack := v.toList ++ rest }) target → Steps p.tables e below (T.setTop g) target) ∨
    (∃ (q : Addr) (vm₁ : Vm) (B : Pt), s.WarmedH vm₁ ∧ Stand p l e R s m args below meth c B.U B.locs B.cells B.slots ∧ PostX ⟨T.setVm vm₁, locs, cells, slots⟩ argsL.toArray q B ∧
      Steps p.tables e below (T.setTop g) ((B.U.setTop { g with stack := rest }).pushFrame (.throwing q))) := by
  obtain ⟨mk, hnamed⟩ := Cond.code_named hcode
  obtain ⟨methM, cM, hmethM, -, -, -, -, -, -, hsigM⟩ := Cond.code_spec hnamed hcode
  have hstatic : methM.isStatic = true := Cond.static_spec hnamed hmethM hstat
  obtain ⟨kP, hkP, -⟩ := className_of_methodNamed hnamed
  have hinitP : kP.init = .initialized := Cond.initialized_spec (findClass_of_methodNamed hnamed) hkP hinit
  obtain ⟨vm₁, X₁, hstep₁⟩ := X.invokestatic hexec hown hlink hnamed hmethM hstatic hkP hinitP hy (g := g) hg (argsL := argsL) (rest := rest) (hlen _ hsigM) hstack hdg
  rcases hK m meth c ⟨T.setVm vm₁, locs, cells, slots⟩ { g with stack := rest } (.invokestatic index) mk argsL.toArray X₁ hg hsize hdg hW (X₁.named hnamed) (hpre vm₁ X₁.warmed) with ⟨v, B, X', hpost, hsteps⟩ | ⟨q, B, X', hpost, hsteps⟩
  · exact Or.inl ⟨v, vm₁, B, X₁.warmed, X', hpost, fun target h => hstep₁ _ fun acts => by rw [doInvoke_state]; exact hsteps.trans h⟩
  · exact Or.inr ⟨q, vm₁, B, X₁.warmed, X', hpost, hstep₁ _ fun acts => by rw [doInvoke_state]; exact hsteps⟩
end Calls
theorem vx_cls {s : State} {T : State} {vm₁ : Vm} {E : String} {k : ClassId} (hW : s.WarmedH vm₁) (h : (T.setVm vm₁).vm.findClass E = some k) : s.vm.findClass E = some k := by
  have h1 : vm₁.findClass E = some k := h
  rw [hW.alike.findClass] at h1
  exact h1
/-- the method's frame g, with q thrown over it -/
def vx_W (p : Program) (l : Launch) (e : Env) (R : Room) (s : State) (m : MethodId) (args : Array Value) (below : List Frame) (meth : Method) (c : Code) (H : Heap) (locs : List Loc) (cells slots : Nat) (Q : State → Prop) (g : JFrame) (q : Addr) : Prop :=
  ∀ T : State, T.heap = H → Stand p l e R s m args below meth c T locs cells slots → ∃ t, Steps p.tables e below ((T.setTop g).pushFrame (.throwing q)) t ∧ Q t
def vx_Run (p : Program) (l : Launch) (e : Env) (R : Room) (s : State) (m : MethodId) (args : Array Value) (below : List Frame) (meth : Method) (c : Code) (H : Heap) (locs : List Loc) (cells slots mc ms : Nat) (g : JFrame) (rest : List Value) (Qa : State → Outcome → State → Prop) (XC : String → State → State → Prop) (free : Addr → Prop) : Prop :=
  ∀ T : State, T.heap = H → Stand p l e R s m args below meth c T locs cells slots →
    (∃ (v : Option Value) (st₀ t T' : State) (L : List Loc), st₀.heap = H ∧ Stand p l e R s m args below meth c T' (locs ++ L) (cells + mc) (slots + ms) ∧ (∀ q ∈ L, free q.base) ∧ T'.heap = t.heap ∧ T'.vm = t.vm ∧ Qa st₀ (.returned v) t ∧
      Goes p e below T g T' { g with pc := g.pc + 3, stack := v.toList ++ rest }) ∨
    (∃ (q : Addr) (st₀ t T' : State) (L : List Loc) (E : String) (ce : Cell), st₀.heap = H ∧ Stand p l e R s m args below meth c T' (locs ++ L) (cells + mc) (slots + ms) ∧ (∀ z ∈ L, free z.base) ∧ T'.heap = t.heap ∧ T'.vm = t.vm ∧ XC E st₀ t ∧ t.heap[q]? = some ce ∧ ce.vm = .none ∧ s.vm.findClass E = some ce.cls ∧
      Steps p.tables e below (T.setTop g) ((T'.setTop { g with stack := rest }).pushFrame (.throwing q)))
def vx_X {S : Type} (px : S → Prop) (B : String → S → State → Prop) (A : Nat → Prop) : String → State → State → Prop := fun E st t => ∃ u : S, px u ∧ B E u t ∧ va_F A st t
section Runs
variable {p : Program} {l : Launch} {e : Env} {R : Room} {s : State} {m : MethodId} {args : Array Value} {below : List Frame} {meth : Method} {c : Code} {H : Heap} {locs : List Loc} {cells slots : Nat}
variable {y : MethodName} {bytes cc : ByteArray} {maxL nL mc ms n index : Nat} {ret : Option FieldType} {ws : List Cond} {rm : Room} {Pc : Array Value → State → Prop} {Qc : Array Value → State → Outcome → State → Prop} {XC : String → State → State → Prop} {free : Addr → Prop} {Ts : List Cond} {own C : String} {b : Addr} {As rest : List Value} {g : JFrame}
theorem vx_callBack (cb : CallB R s args own index y bytes maxL ret ws rm mc ms n) (hM : vx_Met l y ws rm Pc Qc XC mc ms free) (hbl : FrameBlind Pc) : vx_Back l R p e below s args y 3 8 (PreOf R mc ms Pc) (PostOf Qc mc ms free) (vx_Post XC mc ms free) := by
  obtain ⟨hrc, hrs, hfr, hlo, hws, hcw, -, hini, -⟩ := cb
  exact vx_back (bytes := bytes) (maxL := maxL) (ret := ret) hM hbl hrc hrs hfr hlo hws hcw (fun a' U hW => word_at hW (Or.inl (by first | rfl | simp [Cond.onTables, Cond.keeps, Cond.steady])) hini)
theorem vx_runV (S : CallFix p m c cc nL s args Ts own) (hM : vx_Met l y ws rm Pc Qc XC mc ms free) (cw : CallW R s args own C index y bytes maxL ret ws rm mc ms n) (hp : PreV s H C b Pc As)
    (hg : g.method = m) (hn : As.length = n) (hsize : g.locals.size = nL) (hstack : g.stack = As.reverse ++ .ref b :: rest) (hW : 2 * g.monitorRoom + (rest.map fun v => v.category).sum ≤ 8) (hdg : decode cc g.pc = .ok (.invokevirtual index, 3)) (hf : cells + mc ≤ R.cells ∧ slots + ms ≤ R.slots) :
    vx_Run p l e R s m args below meth c H locs cells slots mc ms g rest (Qc (Value.ref b :: As).toArray) XC free := by
  have hK : vx_Back l R p e below s args y 3 8 (PreOf R mc ms Pc) (PostOf Qc mc ms free) (vx_Post XC mc ms free) := vx_callBack cw.1 hM hp.1
  obtain ⟨⟨-, -, -, -, -, -, hcode, -, hy, hlen, hl⟩, hin, hse⟩ := cw
  obtain ⟨hx, hb, hml, ho, -⟩ := S
  obtain ⟨-, ⟨cellB, hcB, hoB, hclB⟩, hPc⟩ := hp
  intro T hT X
  rcases vx_callV X hx (C := C) (bytes := bytes) (maxL := maxL) (ret := ret) ho hl hin hse hcode hy hK (by rw [hT]; exact hcB) hoB hclB hg (hsize.trans hml.symm) (argsL := As) (rest := rest) (fun sig h => hn.trans (hlen sig h)) hstack hW (by rw [hb]; exact hdg)
    (fun vm₁ hW₁ => ⟨hf.1, hf.2, hPc (T.setVm vm₁) hT hW₁⟩) with ⟨v, vm₁, ⟨U', l2, c2, s2⟩, hW₁, X', ⟨g', mk, t, L, e1, e2, hq, h1, hL, h2, h3⟩, st⟩ | ⟨q, vm₁, ⟨U', l2, c2, s2⟩, hW₁, X', ⟨g', mk, t, L, E, ce, e1, e2, hq, hce, hcv, hcl, h1, hL, h2, h3⟩, st⟩
  · dsimp only [Pt.U, Pt.locs, Pt.cells, Pt.slots] at X' e1 e2 h1 h2 h3 st
    subst h1; subst h2; subst h3
    exact Or.inl ⟨v, (T.setVm vm₁).calling g' mk (Value.ref b :: As).toArray, t, U', L, hT, X', hL, e1, e2, hq, st⟩
  · dsimp only [Pt.U, Pt.locs, Pt.cells, Pt.slots] at X' e1 e2 h1 h2 h3 st hcl
    subst h1; subst h2; subst h3
    exact Or.inr ⟨q, (T.setVm vm₁).calling g' mk (Value.ref b :: As).toArray, t, U', L, E, ce, hT, X', hL, e1, e2, hq, hce, hcv, vx_cls hW₁ hcl, st⟩
theorem vx_runS (S : CallFix p m c cc nL s args Ts own) (hM : vx_Met l y ws rm Pc Qc XC mc ms free) (cw : CallB R s args own index y bytes maxL ret ws rm mc ms n ∧ (Cond.static y).before args s = true) (hp : PreS s H Pc As)
    (hg : g.method = m) (hn : As.length = n) (hsize : g.locals.size = nL) (hstack : g.stack = As.reverse ++ rest) (hW : 2 * g.monitorRoom + (rest.map fun v => v.category).sum ≤ 8) (hdg : decode cc g.pc = .ok (.invokestatic index, 3)) (hf : cells + mc ≤ R.cells ∧ slots + ms ≤ R.slots) :
    vx_Run p l e R s m args below meth c H locs cells slots mc ms g rest (Qc As.toArray) XC free := by
  have hK : vx_Back l R p e below s args y 3 8 (PreOf R mc ms Pc) (PostOf Qc mc ms free) (vx_Post XC mc ms free) := vx_callBack cw.1 hM hp.1
  obtain ⟨⟨-, -, -, -, -, -, hcode, hini, hy, hlen, hl⟩, hstt⟩ := cw
  obtain ⟨hx, hb, hml, ho, -⟩ := S
  intro T hT X
  rcases vx_callS X hx (bytes := bytes) (maxL := maxL) (ret := ret) ho hl hstt hini hcode hy hK hg (hsize.trans hml.symm) (argsL := As) (rest := rest) (fun sig h => hn.trans (hlen sig h)) hstack hW (by rw [hb]; exact hdg)
    (fun vm₁ hW₁ => ⟨hf.1, hf.2, hp.2 (T.setVm vm₁) hT hW₁⟩) with ⟨v, vm₁, ⟨U', l2, c2, s2⟩, hW₁, X', ⟨g', mk, t, L, e1, e2, hq, h1, hL, h2, h3⟩, st⟩ | ⟨q, vm₁, ⟨U', l2, c2, s2⟩, hW₁, X', ⟨g', mk, t, L, E, ce, e1, e2, hq, hce, hcv, hcl, h1, hL, h2, h3⟩, st⟩
  · dsimp only [Pt.U, Pt.locs, Pt.cells, Pt.slots] at X' e1 e2 h1 h2 h3 st
    subst h1; subst h2; subst h3
    exact Or.inl ⟨v, (T.setVm vm₁).calling g' mk As.toArray, t, U', L, hT, X', hL, e1, e2, hq, st⟩
  · dsimp only [Pt.U, Pt.locs, Pt.cells, Pt.slots] at X' e1 e2 h1 h2 h3 st hcl
    subst h1; subst h2; subst h3
    exact Or.inr ⟨q, (T.setVm vm₁).calling g' mk As.toArray, t, U', L, E, ce, hT, X', hL, e1, e2, hq, hce, hcv, vx_cls hW₁ hcl, st⟩
end Runs
section Rows
variable {p : Program} {l : Launch} {e : Env} {R : Room} {s : State} {m : MethodId} {args : Array Value} {below : List Frame} {meth : Method} {c : Code} {H : Heap} {locs : List Loc} {cells slots : Nat} {Q : State → Prop}
variable {mc ms : Nat} {free : Addr → Prop} {A0 A1 : Nat → Prop} {H0 : Heap} {a : Array Value} {pc : Nat} {ls : Array Slot} {st0 rest : List Value}
theorem vx_keep {st₀ t T' : State} {L : List Loc} (h0 : st₀.heap = H) (e1 : T'.heap = t.heap) (hS : va_S A0 H0 H locs) (hA : ∀ q, q < H.size → A1 q → A0 q) (hf : ∀ q, free q → A0 q) (hL : ∀ q ∈ L, free q.base) (hF : va_F A1 st₀ t) :
    H.size ≤ T'.heap.size ∧ (∀ q : Nat, q < H.size → ¬ A1 q → T'.heap[q]? = H[q]?) ∧ va_S A0 H0 T'.heap (locs ++ L) := by
  obtain ⟨hz, hk⟩ := hF
  rw [h0] at hz hk
  exact ⟨by rw [e1]; exact hz, fun q h1 h2 => by rw [e1]; exact hk q h1 h2,
    ⟨Nat.le_trans hS.1 (by rw [e1]; exact hz), fun q h1 h2 => by rw [e1, hk q (Nat.lt_of_lt_of_le h1 hS.1) (fun z => h2 (hA q (Nat.lt_of_lt_of_le h1 hS.1) z))]; exact hS.2.1 q h1 h2, fun q hq => by
      rcases List.mem_append.mp hq with h | h
      · exact hS.2.2 q h
      · exact hf _ (hL q h)⟩⟩
theorem vx_calli {S SX : Type} {post : Int32 → S → Prop} {px : SX → Prop} {B : S → State → Prop} {BX : String → SX → State → Prop} {AX : Nat → Prop} (hr : vx_Run p l e R s m args below meth c H locs cells slots mc ms (F0 m pc ls st0) rest (va_Qi post B A1 a) (vx_X px BX AX) free) (hS : va_S A0 H0 H locs) (hA : ∀ q, q < H.size → A1 q → A0 q) (hf : ∀ q, free q → A0 q) (hAX : ∀ q, q < H.size → AX q → A0 q)
    (kx : ∀ (E : String) (ce : Cell) (q9 : Addr) (u : SX) (t : State) (H1 : Heap) (locs1 : List Loc), t.heap = H1 → s.vm.Alike t.vm → px u → BX E u t → H.size ≤ H1.size → (∀ q : Nat, q < H.size → ¬ AX q → H1[q]? = H[q]?) → va_S A0 H0 H1 locs1 → H1[q9]? = some ce → ce.vm = .none → s.vm.findClass E = some ce.cls → vx_W p l e R s m args below meth c H1 locs1 (cells + mc) (slots + ms) Q (F0 m pc ls rest) q9)
    (kk : ∀ (r : Int32) (u : S) (t : State) (H1 : Heap) (locs1 : List Loc), t.heap = H1 → s.vm.Alike t.vm → post r u → B u t → H.size ≤ H1.size → (∀ q : Nat, q < H.size → ¬ A1 q → H1[q]? = H[q]?) → va_S A0 H0 H1 locs1 → W p l e R s m args below meth c H1 locs1 (cells + mc) (slots + ms) Q (F0 m (pc + 3) ls (.int r :: rest))) : W p l e R s m args below meth c H locs cells slots Q (F0 m pc ls st0) := by
  intro T hT X
  rcases hr T hT X with ⟨v, st₀, t, T', L, h0, X', hL, e1, e2, ⟨⟨r, u, hv, hp, hb⟩, hF⟩, st⟩ | ⟨q, st₀, t, T', L, E, ce, h0, X', hL, e1, e2, ⟨u, hp, hb, hF⟩, hce, hcv, hcl, st⟩
  · cases hv
    obtain ⟨k1, k2, k3⟩ := vx_keep h0 e1 hS hA hf hL hF
    obtain ⟨t2, a1, b1⟩ := kk r u t T'.heap (locs ++ L) e1.symm (by rw [← e2]; exact X'.warmed.alike) hp hb k1 k2 k3 T' rfl X'
    exact ⟨t2, st t2 a1, b1⟩
  · obtain ⟨k1, k2, k3⟩ := vx_keep h0 e1 hS hAX hf hL hF
    obtain ⟨t2, a1, b1⟩ := kx E ce q u t T'.heap (locs ++ L) e1.symm (by rw [← e2]; exact X'.warmed.alike) hp hb k1 k2 k3 (by rw [e1]; exact hce) hcv hcl T' rfl X'
    exact ⟨t2, st.trans a1, b1⟩
theorem vx_calll {S SX : Type} {post : Int64 → S → Prop} {px : SX → Prop} {B : S → State → Prop} {BX : String → SX → State → Prop} {AX : Nat → Prop} (hr : vx_Run p l e R s m args below meth c H locs cells slots mc ms (F0 m pc ls st0) rest (va_Ql post B A1 a) (vx_X px BX AX) free) (hS : va_S A0 H0 H locs) (hA : ∀ q, q < H.size → A1 q → A0 q) (hf : ∀ q, free q → A0 q) (hAX : ∀ q, q < H.size → AX q → A0 q)
    (kx : ∀ (E : String) (ce : Cell) (q9 : Addr) (u : SX) (t : State) (H1 : Heap) (locs1 : List Loc), t.heap = H1 → s.vm.Alike t.vm → px u → BX E u t → H.size ≤ H1.size → (∀ q : Nat, q < H.size → ¬ AX q → H1[q]? = H[q]?) → va_S A0 H0 H1 locs1 → H1[q9]? = some ce → ce.vm = .none → s.vm.findClass E = some ce.cls → vx_W p l e R s m args below meth c H1 locs1 (cells + mc) (slots + ms) Q (F0 m pc ls rest) q9)
    (kk : ∀ (r : Int64) (u : S) (t : State) (H1 : Heap) (locs1 : List Loc), t.heap = H1 → s.vm.Alike t.vm → post r u → B u t → H.size ≤ H1.size → (∀ q : Nat, q < H.size → ¬ A1 q → H1[q]? = H[q]?) → va_S A0 H0 H1 locs1 → W p l e R s m args below meth c H1 locs1 (cells + mc) (slots + ms) Q (F0 m (pc + 3) ls (.long r :: rest))) : W p l e R s m args below meth c H locs cells slots Q (F0 m pc ls st0) := by
  intro T hT X
  rcases hr T hT X with ⟨v, st₀, t, T', L, h0, X', hL, e1, e2, ⟨⟨r, u, hv, hp, hb⟩, hF⟩, st⟩ | ⟨q, st₀, t, T', L, E, ce, h0, X', hL, e1, e2, ⟨u, hp, hb, hF⟩, hce, hcv, hcl, st⟩
  · cases hv
    obtain ⟨k1, k2, k3⟩ := vx_keep h0 e1 hS hA hf hL hF
    obtain ⟨t2, a1, b1⟩ := kk r u t T'.heap (locs ++ L) e1.symm (by rw [← e2]; exact X'.warmed.alike) hp hb k1 k2 k3 T' rfl X'
    exact ⟨t2, st t2 a1, b1⟩
  · obtain ⟨k1, k2, k3⟩ := vx_keep h0 e1 hS hAX hf hL hF
    obtain ⟨t2, a1, b1⟩ := kx E ce q u t T'.heap (locs ++ L) e1.symm (by rw [← e2]; exact X'.warmed.alike) hp hb k1 k2 k3 (by rw [e1]; exact hce) hcv hcl T' rfl X'
    exact ⟨t2, st.trans a1, b1⟩
theorem vx_callf {S SX : Type} {post : UInt32 → S → Prop} {px : SX → Prop} {B : S → State → Prop} {BX : String → SX → State → Prop} {AX : Nat → Prop} (hr : vx_Run p l e R s m args below meth c H locs cells slots mc ms (F0 m pc ls st0) rest (va_Qf post B A1 a) (vx_X px BX AX) free) (hS : va_S A0 H0 H locs) (hA : ∀ q, q < H.size → A1 q → A0 q) (hf : ∀ q, free q → A0 q) (hAX : ∀ q, q < H.size → AX q → A0 q)
    (kx : ∀ (E : String) (ce : Cell) (q9 : Addr) (u : SX) (t : State) (H1 : Heap) (locs1 : List Loc), t.heap = H1 → s.vm.Alike t.vm → px u → BX E u t → H.size ≤ H1.size → (∀ q : Nat, q < H.size → ¬ AX q → H1[q]? = H[q]?) → va_S A0 H0 H1 locs1 → H1[q9]? = some ce → ce.vm = .none → s.vm.findClass E = some ce.cls → vx_W p l e R s m args below meth c H1 locs1 (cells + mc) (slots + ms) Q (F0 m pc ls rest) q9)
    (kk : ∀ (r : UInt32) (u : S) (t : State) (H1 : Heap) (locs1 : List Loc), t.heap = H1 → s.vm.Alike t.vm → post r u → B u t → H.size ≤ H1.size → (∀ q : Nat, q < H.size → ¬ A1 q → H1[q]? = H[q]?) → va_S A0 H0 H1 locs1 → W p l e R s m args below meth c H1 locs1 (cells + mc) (slots + ms) Q (F0 m (pc + 3) ls (.float r :: rest))) : W p l e R s m args below meth c H locs cells slots Q (F0 m pc ls st0) := by
  intro T hT X
  rcases hr T hT X with ⟨v, st₀, t, T', L, h0, X', hL, e1, e2, ⟨⟨r, u, hv, hp, hb⟩, hF⟩, st⟩ | ⟨q, st₀, t, T', L, E, ce, h0, X', hL, e1, e2, ⟨u, hp, hb, hF⟩, hce, hcv, hcl, st⟩
  · cases hv
    obtain ⟨k1, k2, k3⟩ := vx_keep h0 e1 hS hA hf hL hF
    obtain ⟨t2, a1, b1⟩ := kk r u t T'.heap (locs ++ L) e1.symm (by rw [← e2]; exact X'.warmed.alike) hp hb k1 k2 k3 T' rfl X'
    exact ⟨t2, st t2 a1, b1⟩
  · obtain ⟨k1, k2, k3⟩ := vx_keep h0 e1 hS hAX hf hL hF
    obtain ⟨t2, a1, b1⟩ := kx E ce q u t T'.heap (locs ++ L) e1.symm (by rw [← e2]; exact X'.warmed.alike) hp hb k1 k2 k3 (by rw [e1]; exact hce) hcv hcl T' rfl X'
    exact ⟨t2, st.trans a1, b1⟩
theorem vx_calld {S SX : Type} {post : UInt64 → S → Prop} {px : SX → Prop} {B : S → State → Prop} {BX : String → SX → State → Prop} {AX : Nat → Prop} (hr : vx_Run p l e R s m args below meth c H locs cells slots mc ms (F0 m pc ls st0) rest (va_Qd post B A1 a) (vx_X px BX AX) free) (hS : va_S A0 H0 H locs) (hA : ∀ q, q < H.size → A1 q → A0 q) (hf : ∀ q, free q → A0 q) (hAX : ∀ q, q < H.size → AX q → A0 q)
    (kx : ∀ (E : String) (ce : Cell) (q9 : Addr) (u : SX) (t : State) (H1 : Heap) (locs1 : List Loc), t.heap = H1 → s.vm.Alike t.vm → px u → BX E u t → H.size ≤ H1.size → (∀ q : Nat, q < H.size → ¬ AX q → H1[q]? = H[q]?) → va_S A0 H0 H1 locs1 → H1[q9]? = some ce → ce.vm = .none → s.vm.findClass E = some ce.cls → vx_W p l e R s m args below meth c H1 locs1 (cells + mc) (slots + ms) Q (F0 m pc ls rest) q9)
    (kk : ∀ (r : UInt64) (u : S) (t : State) (H1 : Heap) (locs1 : List Loc), t.heap = H1 → s.vm.Alike t.vm → post r u → B u t → H.size ≤ H1.size → (∀ q : Nat, q < H.size → ¬ A1 q → H1[q]? = H[q]?) → va_S A0 H0 H1 locs1 → W p l e R s m args below meth c H1 locs1 (cells + mc) (slots + ms) Q (F0 m (pc + 3) ls (.double r :: rest))) : W p l e R s m args below meth c H locs cells slots Q (F0 m pc ls st0) := by
  intro T hT X
  rcases hr T hT X with ⟨v, st₀, t, T', L, h0, X', hL, e1, e2, ⟨⟨r, u, hv, hp, hb⟩, hF⟩, st⟩ | ⟨q, st₀, t, T', L, E, ce, h0, X', hL, e1, e2, ⟨u, hp, hb, hF⟩, hce, hcv, hcl, st⟩
  · cases hv
    obtain ⟨k1, k2, k3⟩ := vx_keep h0 e1 hS hA hf hL hF
    obtain ⟨t2, a1, b1⟩ := kk r u t T'.heap (locs ++ L) e1.symm (by rw [← e2]; exact X'.warmed.alike) hp hb k1 k2 k3 T' rfl X'
    exact ⟨t2, st t2 a1, b1⟩
  · obtain ⟨k1, k2, k3⟩ := vx_keep h0 e1 hS hAX hf hL hF
    obtain ⟨t2, a1, b1⟩ := kx E ce q u t T'.heap (locs ++ L) e1.symm (by rw [← e2]; exact X'.warmed.alike) hp hb k1 k2 k3 (by rw [e1]; exact hce) hcv hcl T' rfl X'
    exact ⟨t2, st.trans a1, b1⟩
theorem vx_callv {S SX : Type} {post : S → Prop} {px : SX → Prop} {B : S → State → Prop} {BX : String → SX → State → Prop} {AX : Nat → Prop} (hr : vx_Run p l e R s m args below meth c H locs cells slots mc ms (F0 m pc ls st0) rest (va_Qv post B A1 a) (vx_X px BX AX) free) (hS : va_S A0 H0 H locs) (hA : ∀ q, q < H.size → A1 q → A0 q) (hf : ∀ q, free q → A0 q) (hAX : ∀ q, q < H.size → AX q → A0 q)
    (kx : ∀ (E : String) (ce : Cell) (q9 : Addr) (u : SX) (t : State) (H1 : Heap) (locs1 : List Loc), t.heap = H1 → s.vm.Alike t.vm → px u → BX E u t → H.size ≤ H1.size → (∀ q : Nat, q < H.size → ¬ AX q → H1[q]? = H[q]?) → va_S A0 H0 H1 locs1 → H1[q9]? = some ce → ce.vm = .none → s.vm.findClass E = some ce.cls → vx_W p l e R s m args below meth c H1 locs1 (cells + mc) (slots + ms) Q (F0 m pc ls rest) q9)
    (kk : ∀ (u : S) (t : State) (H1 : Heap) (locs1 : List Loc), t.heap = H1 → s.vm.Alike t.vm → post u → B u t → H.size ≤ H1.size → (∀ q : Nat, q < H.size → ¬ A1 q → H1[q]? = H[q]?) → va_S A0 H0 H1 locs1 → W p l e R s m args below meth c H1 locs1 (cells + mc) (slots + ms) Q (F0 m (pc + 3) ls (rest))) : W p l e R s m args below meth c H locs cells slots Q (F0 m pc ls st0) := by
  intro T hT X
  rcases hr T hT X with ⟨v, st₀, t, T', L, h0, X', hL, e1, e2, ⟨⟨u, hv, hp, hb⟩, hF⟩, st⟩ | ⟨q, st₀, t, T', L, E, ce, h0, X', hL, e1, e2, ⟨u, hp, hb, hF⟩, hce, hcv, hcl, st⟩
  · cases hv
    obtain ⟨k1, k2, k3⟩ := vx_keep h0 e1 hS hA hf hL hF
    obtain ⟨t2, a1, b1⟩ := kk u t T'.heap (locs ++ L) e1.symm (by rw [← e2]; exact X'.warmed.alike) hp hb k1 k2 k3 T' rfl X'
    exact ⟨t2, st t2 a1, b1⟩
  · obtain ⟨k1, k2, k3⟩ := vx_keep h0 e1 hS hAX hf hL hF
    obtain ⟨t2, a1, b1⟩ := kx E ce q u t T'.heap (locs ++ L) e1.symm (by rw [← e2]; exact X'.warmed.alike) hp hb k1 k2 k3 (by rw [e1]; exact hce) hcv hcl T' rfl X'
    exact ⟨t2, st.trans a1, b1⟩
/-- caught by the row x of this method's table; the rows ahead don't take it -/
theorem vx_catch {own name : String} {E : String} {ce : Cell} {q : Addr} (hown : s.vm.findClass own = some m.cls) (pre : List ExceptionTableEntry) (x : ExceptionTableEntry) (suf : List ExceptionTableEntry) (hsplit : c.exceptionTable.toList = pre ++ x :: suf)
    (hpass : ∀ z ∈ pre, covers z pc = false ∨ (z.catchType ≠ 0 ∧ ∃ nm : String, (Cond.classLink own z.catchType nm).before args s = true ∧ va_Nc E nm s)) (hx : covers x pc = true) (h0 : x.catchType ≠ 0)
    (hlink : (Cond.classLink own x.catchType name).before args s = true) (hcast : (Cond.castable E name).before args s = true) (hcell : H[q]? = some ce) (hv : ce.vm = .none) (hcl : s.vm.findClass E = some ce.cls)
    (kk : W p l e R s m args below meth c H locs cells slots Q (F0 m x.handlerPc ls [.ref q])) : vx_W p l e R s m args below meth c H locs cells slots Q (F0 m pc ls rest) q := by
  sorry
end Rows
section Ends
variable {p : Program} {l : Launch} {e : Env} {R : Room} {s : State} {m : MethodId} {args : Array Value} {below : List Frame} {meth : Method} {c : Code} {H : Heap} {locs : List Loc} {cells slots : Nat} {Q : State → Prop}
variable {mc ms : Nat} {free : Addr → Prop} {A0 A1 : Nat → Prop} {H0 : Heap} {a : Array Value} {ls : Array Slot} {st0 rest : List Value}
variable {Qc : Array Value → State → Outcome → State → Prop} {XC : String → State → State → Prop}
/-- what a body that may throw owes at its end -/
def vx_MQ (below : List Frame) (Qc : Array Value → State → Outcome → State → Prop) (XC : String → State → State → Prop) (a : Array Value) (s : State) (mc ms : Nat) (free : Addr → Prop) : State → Prop := fun t =>
  ∃ o, t.status = .running ∧ Ended t below o ∧ vx_Q Qc XC mc ms free a s o t
theorem vx_ret {g : JFrame} {mc ms : Nat} (k : W p l e R s m args below meth c H locs cells slots (MQ below Qc args s mc ms free) g) : W p l e R s m args below meth c H locs cells slots (vx_MQ below Qc XC args s mc ms free) g := by
  intro T hT X
  obtain ⟨t, a1, o, b1, b2, b3, b4⟩ := k T hT X
  exact ⟨t, a1, o, b1, b2, Or.inl ⟨b3, b4⟩⟩
/-- not caught here: it goes on to the caller -/
theorem vx_widen {g : JFrame} {q : Addr} {k n : Nat} (h1 : cells ≤ k) (h2 : slots ≤ n) (kk : vx_W p l e R s m args below meth c H locs k n Q g q) : vx_W p l e R s m args below meth c H locs cells slots Q g q := fun T hT X => kk T hT (stand_widen X h1 h2)
theorem vx_out {pc : Nat} {E : String} {ce : Cell} {q : Addr} {mc ms : Nat} (hout : ∀ x ∈ c.exceptionTable.toList, covers x pc = false) (hlocks : meth.locks = false) (hcell : H[q]? = some ce) (hv : ce.vm = .none) (hcl : s.vm.findClass E = some ce.cls)
    (hx : ∀ t : State, t.heap = H → s.vm.Alike t.vm → XC E s t) (hf : ∀ z ∈ locs, free z.base) (hc : cells ≤ mc) (hs : slots ≤ ms) :
    vx_W p l e R s m args below meth c H locs cells slots (vx_MQ below Qc XC args s mc ms free) (F0 m pc ls rest) q := by
  intro T hT X
  obtain ⟨st1, hrun, hend, hW, hsm⟩ := X.leaveThrown q (g := F0 m pc ls rest) rfl rfl rfl hout hlocks
  have hcell9 : (T.setFrames (.throwing q :: below)).heap[q]? = some ce := by
    show T.heap[q]? = some ce
    rw [hT]; exact hcell
  exact ⟨_, st1, .threw q, hrun, hend, Or.inr ⟨q, rfl, E, ce, locs, hx _ hT hW.alike, hcell9, hv, hcl, hW, hsm.mono hc hs, hf⟩⟩
theorem vx_frame {U : State} {k n : Nat} (h : s.sameButNew ({ U with vm := s.vm } : State) locs k n) : s.heap.size ≤ U.heap.size ∧ ∀ q : Nat, q < s.heap.size → (∀ z ∈ locs, z.base ≠ q) → U.heap[q]? = s.heap[q]? := by
  obtain ⟨-, h2, -, -, -, h6⟩ := h
  refine ⟨h2, fun q hq hz => ?_⟩
  obtain ⟨c9, e1, e2, e3, e4⟩ := h6 q _ (Array.getElem?_eq_getElem hq)
  have hs : c9.slots = (s.heap[q]).slots := Array.ext_getElem? fun i => e4 i fun hm => hz _ hm rfl
  have h9 : c9 = s.heap[q] := by
    rw [hs] at e2
    exact e2
  have e5 : U.heap[q]? = some c9 := e1
  rw [e5, h9, Array.getElem?_eq_getElem hq]
/-- the words of a throw but the four that speak of the heap -/
def vx_no (w : Cond) : Bool := decide (w ≠ .isRef (.static Bundle.tN "UNASSIGNED_STACK" Bundle.steD)) && decide (w ≠ .isRef (.static Bundle.tN "SUPPRESSED_SENTINEL" Bundle.listD)) && decide (w ≠ .laysStatic Bundle.tN "UNASSIGNED_STACK" Bundle.steD) && decide (w ≠ .laysStatic Bundle.tN "SUPPRESSED_SENTINEL" Bundle.listD)
def vx_at0 (own : String) (ic : Nat) (X : String) (names : List String) : List Cond := (Bundle.ownAtoms0 own ic X names).filter vx_no
def vx_atS (own : String) (ic : Nat) (X : String) (names : List String) : List Cond := (Bundle.ownAtoms own ic X names).filter vx_no
/-- a word that the tables alone decide, or a good one -/
def vx_ot (w : Cond) : Bool := w.onTables || goodWord w
theorem vx_ot_at {args a' : Array Value} {s U : State} {w : Cond} (hW : s.WarmedH U.vm) (hvm : s.vm = U.vm) (hg : vx_ot w = true) (h : w.before args s = true) : w.before a' U = true := by
  simp only [vx_ot, Bool.or_eq_true] at hg
  rcases hg with hg | hg
  · exact va_tabs hg hvm h
  · exact word_at hW (good_of_word hg) h
/-- a list's words: the good ones out of the method's own list, the others by premises of their own -/
theorem vx_hat {args : Array Value} {s : State} {L B : List Cond} (h1 : ∀ w ∈ L.filter goodWord, w.before args s = true) (h2 : ∀ w ∈ L.filter (fun w => !goodWord w), w ∈ B) (h3 : ∀ w ∈ B, w.before args s = true) : ∀ w ∈ L, w.before args s = true := by
  intro w hw
  by_cases g : goodWord w = true
  · exact h1 w (List.mem_filter.mpr ⟨hw, g⟩)
  · refine h3 w (h2 w (List.mem_filter.mpr ⟨hw, ?_⟩))
    show (!goodWord w) = true
    cases hgw : goodWord w
    · rfl
    · exact absurd hgw g
theorem vx_c {args : Array Value} {s : State} {w : Cond} {B : List Cond} (h : w.before args s = true) (t : ∀ w ∈ B, w.before args s = true) : ∀ w' ∈ w :: B, w'.before args s = true := fun w' h' => (List.mem_cons.mp h').elim (fun e => by rw [e]; exact h) (t w')
theorem vx_n {args : Array Value} {s : State} : ∀ w ∈ ([] : List Cond), w.before args s = true := fun _ h => nomatch h
theorem vx_own {args : Array Value} {s : State} {L : List Cond} (h1 : ∀ w ∈ L.filter vx_no, w.before args s = true)
    (hU : (Cond.isRef (.static Bundle.tN "UNASSIGNED_STACK" Bundle.steD)).before args s = true) (hN : (Cond.isRef (.static Bundle.tN "SUPPRESSED_SENTINEL" Bundle.listD)).before args s = true)
    (lU : (Cond.laysStatic Bundle.tN "UNASSIGNED_STACK" Bundle.steD).before args s = true) (lN : (Cond.laysStatic Bundle.tN "SUPPRESSED_SENTINEL" Bundle.listD).before args s = true) : ∀ w ∈ L, w.before args s = true := by
  intro w hw
  by_cases e1 : w = .isRef (.static Bundle.tN "UNASSIGNED_STACK" Bundle.steD)
  · rw [e1]; exact hU
  · by_cases e2 : w = .isRef (.static Bundle.tN "SUPPRESSED_SENTINEL" Bundle.listD)
    · rw [e2]; exact hN
    · by_cases e3 : w = .laysStatic Bundle.tN "UNASSIGNED_STACK" Bundle.steD
      · rw [e3]; exact lU
      · by_cases e4 : w = .laysStatic Bundle.tN "SUPPRESSED_SENTINEL" Bundle.listD
        · rw [e4]; exact lN
        · exact h1 w (List.mem_filter.mpr ⟨hw, by unfold vx_no; rw [decide_eq_true e1, decide_eq_true e2, decide_eq_true e3, decide_eq_true e4]; rfl⟩)
/-- where a static field lies, its class's statics cell in H -/
def vx_L (C n d : String) (A : Nat → Prop) (U : State) (H : Heap) : Prop := ∃ (c : ClassId) (k : Class) (i : Nat) (f : Field) (a : Nat) (cell : Cell), U.vm.findClass C = some c ∧ U.fieldFound? C n d = some (c, k, i, f) ∧ f.isStatic = true ∧ k.statics = some a ∧ H[a]? = some cell ∧ cell.vm.isStatics = true ∧ cell.cls = c ∧ f.slot < cell.slots.size ∧ k.staticTypes[f.slot]? = some f.type ∧ ¬ A a
theorem vx_L.moved {C n d : String} {A : Nat → Prop} {u U : State} {H : Heap} (hvm : u.vm.Alike U.vm) (h : vx_L C n d A u H) : vx_L C n d A U H := by
  obtain ⟨c, k, i, f, a, cell, h1, h2, h3, h4, h5, h6, h7, h8, h9, h10⟩ := h
  obtain ⟨k', hi', he⟩ := State.fieldFound?_setVm hvm h2
  exact ⟨c, k', i, f, a, cell, by rw [hvm.findClass]; exact h1, hi', h3, by rw [he]; exact h4, h5, h6, h7, h8, by rw [he]; exact h9, h10⟩
theorem vx_L.kept {C n d : String} {A : Nat → Prop} {U : State} {H H1 : Heap} (h : vx_L C n d A U H) (hq : ∀ a : Nat, a < H.size → ¬ A a → H1[a]? = H[a]?) : vx_L C n d A U H1 := by
  obtain ⟨c, k, i, f, a, cell, h1, h2, h3, h4, h5, h6, h7, h8, h9, h10⟩ := h
  exact ⟨c, k, i, f, a, cell, h1, h2, h3, h4, by rw [hq a (Array.getElem?_eq_some_iff.mp h5).1 h10]; exact h5, h6, h7, h8, h9, h10⟩
theorem vx_L.narrow {C n d : String} {A B : Nat → Prop} {U : State} {H : Heap} (h : vx_L C n d A U H) (hAB : ∀ q, B q → A q) : vx_L C n d B U H := by
  obtain ⟨c, k, i, f, a, cell, h1, h2, h3, h4, h5, h6, h7, h8, h9, h10⟩ := h
  exact ⟨c, k, i, f, a, cell, h1, h2, h3, h4, h5, h6, h7, h8, h9, fun z => h10 (hAB _ z)⟩
theorem vx_L.word {C n d : String} {A : Nat → Prop} {s : State} {args : Array Value} (h : vx_L C n d A s s.heap) : (Cond.laysStatic C n d).before args s = true := by
  obtain ⟨c, k, i, f, a, cell, h1, h2, h3, h4, h5, h6, h7, h8, h9, -⟩ := h
  show (Cond.laysStatic C n d).holds args s none s [] = true
  exact Cond.laysStatic_of h1 h2 h3 h4 h5 h6 h7 h8 h9
/-- .. and what it holds: null or some reference -/
def vx_Zq (C n d : String) (A : Nat → Prop) (U : State) (H : Heap) : Prop := va_Zq C n d A U H ∧ vx_L C n d A U H
theorem vx_Zq.moved {C n d : String} {A : Nat → Prop} {u U : State} {H : Heap} (hvm : u.vm.Alike U.vm) (h : vx_Zq C n d A u H) : vx_Zq C n d A U H := ⟨va_Zq.moved hvm h.1, vx_L.moved hvm h.2⟩
theorem vx_Zq.kept {C n d : String} {A : Nat → Prop} {U : State} {H H1 : Heap} (h : vx_Zq C n d A U H) (hq : ∀ a : Nat, a < H.size → ¬ A a → H1[a]? = H[a]?) : vx_Zq C n d A U H1 := ⟨va_Zq.kept h.1 hq, vx_L.kept h.2 hq⟩
theorem vx_Zq.narrow {C n d : String} {A B : Nat → Prop} {U : State} {H : Heap} (h : vx_Zq C n d A U H) (hAB : ∀ q, B q → A q) : vx_Zq C n d B U H := ⟨va_Zq.narrow h.1 hAB, vx_L.narrow h.2 hAB⟩
theorem vx_Zqof {args : Array Value} {s : State} {C n d : String} {A : Nat → Prop} (hl : (Cond.laysStatic C n d).before args s = true) (hini : (Cond.initialized C).before args s = true) (h : (Cond.isRef (.static C n d)).before args s = true) (hA : ∀ a : Nat, a < s.heap.size → ¬ A a) : vx_Zq C n d A s s.heap := by
  refine ⟨va_Zqof hl hini h hA, ?_⟩
  obtain ⟨c, k, i, f, a, cell, h1, h2, h3, h4, h5, h6, h7, h8, h9⟩ := Cond.laysStatic_spec hl
  exact ⟨c, k, i, f, a, cell, h1, h2, h3, h4, h5, h6, h7, h8, h9, hA a (Array.getElem?_eq_some_iff.mp h5).1⟩
theorem vx_isRef {C n d : String} {v : Value} {A : Nat → Prop} {s : State} {args : Array Value} (h : va_Z C n d v A s s.heap) (hv : v.isRef = true) : (Cond.isRef (.static C n d)).before args s = true := by
  obtain ⟨cf, kf, fi, f, a, cell, h1, h2, h3, h4, h5, h6, h7, -⟩ := h
  have he : (Term.static C n d).eval args s none [] s = some v := by
    simp [Term.eval, State.fieldNamed?, h1, h2, h4, h5, h6, h7]
  simp only [Cond.before, Cond.holds, Cond.value, he]
  cases v <;> simp_all [Value.isRef]
theorem vx_isRefq {C n d : String} {A : Nat → Prop} {s : State} {args : Array Value} (h : va_Zq C n d A s s.heap) : (Cond.isRef (.static C n d)).before args s = true := by
  rcases h with h | ⟨t, h⟩
  · exact vx_isRef h rfl
  · exact vx_isRef h rfl
/-- the same frame, seen from here: as if the method were called anew in this heap -/
theorem vx_rebase {T : State} (X : Stand p l e R s m args below meth c T locs cells slots) {R' : Room} (hf : R'.frames ≤ R.frames) (hl : R'.locals ≤ R.locals) (hc : cells + R'.cells ≤ R.cells) (hs : slots + R'.slots ≤ R.slots) :
    Stand p l e R' ((T.setVm s.vm).setFrames (.invoking m args :: below)) m args below meth c T [] 0 0 := by
  have htop : (T.setVm s.vm).topJava?.isSome := X.here.top
  have hF : ((T.setVm s.vm).setFrames (.invoking m args :: below)).frames = .invoking m args :: below := State.frames_setFrames _ (State.cur_lt_of_top htop)
  obtain ⟨g₀, hg0⟩ := Option.isSome_iff_exists.mp htop
  obtain ⟨r, hr⟩ := State.topJava?_eq_some.mp hg0
  have hl9 : e.platform.stackLimits (T.setVm s.vm).me = e.platform.stackLimits s.me := X.limits
  have hb9 : (T.setVm s.vm).me.stackBytes = s.me.stackBytes := X.bytes
  refine ⟨X.admits, X.cas, X.clock, hF, ?_, X.hears, X.method, X.code, X.here, X.tail, X.warmed, ?_, ?_, ?_⟩
  · have h := X.room
    have hU : ((T.setVm s.vm).setFrames (.invoking m args :: below)).localsInUse = s.localsInUse := by
      rw [State.localsInUse_invoking hF (meth := meth) (c := c) X.method X.code, State.localsInUse_invoking X.frames X.method X.code]
    simp only [State.hasRoom, Bool.and_eq_true, decide_eq_true_eq] at h ⊢
    obtain ⟨⟨⟨⟨h1, h2, h3, h4, h5, h6⟩, h7⟩, h8⟩, h9⟩ := h
    rw [X.frames, List.length_cons] at h2 h3
    have q1 := X.heapSize
    have q2 := X.used
    simp only [hF, hU, List.length_cons, State.stackLimits_setFrames, State.stackBytes_setFrames, hl9, hb9]
    refine ⟨⟨⟨⟨by omega, by omega, by omega, by omega, by omega, h6⟩, ?_⟩, ?_⟩, X.book⟩
    · show T.heap.size + R'.cells ≤ e.platform.maxCells
      omega
    · show T.slotsUsed + R'.slots ≤ e.platform.maxSlots
      omega
  · rw [State.stackLimits_setFrames]; rfl
  · rw [State.stackBytes_setFrames]; rfl
  · refine ⟨?_, Nat.le_refl _, Nat.le_refl _, ?_, ?_, fun a c9 h9 => ⟨c9, h9, rfl, rfl, fun _ _ => rfl⟩⟩
    · obtain ⟨t, ht, -⟩ := State.frames_cons hr
      show T.setVm s.vm = { ((T.setVm s.vm).setFrames (.invoking m args :: below)).setFrames (T.setVm s.vm).frames with heap := T.heap, slotsUsed := T.slotsUsed }
      rw [State.setFrames_setFrames, State.setFrames_self ht]
      rfl
    · show T.slotsUsed = T.slotsUsed + ((T.heap.toList.drop T.heap.size).map (·.slots.size)).sum
      rw [List.drop_eq_nil_of_le (Nat.le_of_eq Array.length_toList)]
      rfl
    · show ((T.heap.toList.drop T.heap.size).map (·.slots.size)).sum ≤ 0
      rw [List.drop_eq_nil_of_le (Nat.le_of_eq Array.length_toList)]
      exact Nat.le_refl _
/-- 'throw new E()': new; dup; invokespecial; athrow -/
theorem vx_throw0 {cc : ByteArray} {pc : Nat} (hexec : p.tables.exec = Jvm.exec) (hb : c.code = cc) (hl : l.stackTraces = false) {own cls : String} {names : List String} {ik ic mc ms : Nat} {A : Nat → Prop}
    (hown : s.vm.findClass own = some m.cls) (hcls : Bundle.fit cls = true) (hnames : ∀ n ∈ names, Bundle.fit n = true)
    (hk : (Cond.classLink own ik cls).before args s = true) (hini : (Cond.initialized cls).before args s = true) (hat : ∀ w ∈ vx_at0 own ic cls names, w.before args s = true)
    (hgood : ∀ w ∈ Cond.classLink own ik cls :: Cond.initialized cls :: vx_at0 own ic cls names, vx_ot w = true)
    (hU : vx_Zq Bundle.tN "UNASSIGNED_STACK" Bundle.steD A s s.heap) (hN : vx_Zq Bundle.tN "SUPPRESSED_SENTINEL" Bundle.listD A s s.heap) (hS : va_S A s.heap H locs) (hsize : ls.size = c.maxLocals)
    (d0 : decode cc pc = .ok (.new ik, 3)) (d3 : decode cc (pc + 3) = .ok (.dup, 1)) (d4 : decode cc (pc + 4) = .ok (.invokespecial ic, 3)) (d7 : decode cc (pc + 7) = .ok (.athrow, 1))
    (hout : ∀ x ∈ c.exceptionTable.toList, covers x (pc + 7) = false)
    (hRframes : names.length + 3 < R.frames) (hRlocals : (rest.map fun v => v.category).sum + (13 * (names.length + 1) + 42) ≤ R.locals) (hRcells : cells + 1 ≤ R.cells) (hRslots : slots + 6 ≤ R.slots) (hlocks : meth.locks = false)
    (hx : ∀ t : State, s.vm.Alike t.vm → H.size ≤ t.heap.size → (∀ q : Nat, q < H.size → t.heap[q]? = H[q]?) → XC cls s t)
    (hf : ∀ z ∈ locs, free z.base) (hc : cells + 1 ≤ mc) (hs : slots + 6 ≤ ms) :
    W p l e R s m args below meth c H locs cells slots (vx_MQ below Qc XC args s mc ms free) (F0 m pc ls rest) := by
  intro T hT X
  have htr : e.platform.stackTraces = false := (show e.platform.stackTraces = l.stackTraces by rw [X.admits.platform]).trans hl
  have Y := vx_rebase X (R' := { frames := R.frames, locals := R.locals, cells := 1, slots := 6 }) (Nat.le_refl _) (Nat.le_refl _) hRcells hRslots
  obtain ⟨s', hA⟩ : ∃ z, z = (T.setVm s.vm).setFrames (.invoking m args :: below) := ⟨_, rfl⟩
  rw [← hA] at Y
  have hvm : s'.vm = s.vm := by rw [hA]; rfl
  have hhp : s'.heap = H := by rw [hA]; exact hT
  have hW0 : s.WarmedH s'.vm := by rw [hvm]; exact State.WarmedH.refl s
  have hat' : ∀ w ∈ vx_at0 own ic cls names, w.before args s' = true := fun w hw => vx_ot_at hW0 hvm.symm (hgood w (List.mem_cons_of_mem _ (List.mem_cons_of_mem _ hw))) (hat w hw)
  have hk' : (Cond.classLink own ik cls).before args s' = true := vx_ot_at hW0 hvm.symm (hgood _ List.mem_cons_self) hk
  have hini' : (Cond.initialized cls).before args s' = true := vx_ot_at hW0 hvm.symm (hgood _ (List.mem_cons_of_mem _ List.mem_cons_self)) hini
  have hU' : vx_Zq Bundle.tN "UNASSIGNED_STACK" Bundle.steD A s' s'.heap := by rw [hhp]; exact vx_Zq.moved hW0.alike (hU.kept hS.2.1)
  have hN' : vx_Zq Bundle.tN "SUPPRESSED_SENTINEL" Bundle.listD A s' s'.heap := by rw [hhp]; exact vx_Zq.moved hW0.alike (hN.kept hS.2.1)
  have h : ∀ w ∈ Bundle.ownAtoms0 own ic cls names, w.before args s' = true := vx_own hat' (vx_isRefq hU'.1) (vx_isRefq hN'.1) hU'.2.word hN'.2.word
  have hown' : s'.vm.findClass own = some m.cls := by rw [hvm]; exact hown
  have hins : (Cond.instantiable cls 6).before args s' = true := h _ (by simp [Bundle.ownAtoms0])
  obtain ⟨vm₁, cX, kX, hfX, hkX, -, -, X₁, st1⟩ := Y.newCold hexec (own := own) (C := cls) (index := ik) (n := 6) hown' hk' hins hini'
    (g := F0 m pc ls rest) rfl (by rw [hb]; exact d0) (Nat.le_refl _) (Nat.le_refl _)
  generalize hT1 : (T.setVm vm₁).pushCell { cls := cX, slots := kX.instanceTypes.map defaultValue, vm := .none } = T1 at X₁ st1
  have hcat : (Value.ref T.heap.size).category = 1 := rfl
  have hcellA : T1.heap[T.heap.size]? = some (freshCell cX kX) := by rw [← hT1]; exact State.heap_pushCell_size _ _
  have d3' : decode c.code (pc + 3) = .ok (.dup, 1) := by rw [hb]; exact d3
  obtain ⟨U, hsteps, hrun, hend, hW, hsame, ce, hce, hO⟩ := X₁.ctorThrow0 hexec htr (own := own) (cls := cls) (names := names) (ic := ic) hown' hcls hnames h (fun x hx => nomatch hx) hfX hkX hcellA (by rw [hhp, hT]; exact Nat.le_refl _)
    (g := { method := m, pc := pc + 4, locals := ls, stack := .ref T.heap.size :: .ref T.heap.size :: rest, locked := none }) rfl hsize rfl rfl (rest := rest) rfl
    (by rw [hb]; exact d4) (by rw [hb]; exact d7) hout hRframes (by simp only [List.map_cons, List.sum_cons, hcat]; omega) hlocks
  obtain ⟨f1, f2⟩ := vx_frame hsame
  rw [hhp] at f1 f2
  have hWs : s.WarmedH U.vm := State.WarmedH.trans hW0 hW
  have hcl : s.vm.findClass cls = some ce.cls := by
    have h9 := hO.cls
    rw [hvm] at h9
    exact h9
  have hall : s.sameButNew ({ U with vm := s.vm } : State) locs mc ms := by
    subst hA
    obtain ⟨e1, e2⟩ := hsame
    rw [State.setFrames_setFrames] at e1
    have h2 : (T.setVm s.vm).sameButNew ({ U with vm := s.vm } : State) [] (0 + 1) (0 + 6) := ⟨e1, e2⟩
    have h3 := X.same.trans h2
    rw [List.append_nil] at h3
    exact h3.mono hc hs
  refine ⟨U, ?_, .threw T.heap.size, hrun, hend, Or.inr ⟨T.heap.size, rfl, cls, ce, locs, hx U hWs.alike f1 (fun q hq => f2 q hq (fun z hz => nomatch hz)), hce, hO.vm, hcl, hWs, hall, hf⟩⟩
  refine st1 _ ?_
  show Steps p.tables e below (T1.setTop { method := m, pc := pc + 3, locals := ls, stack := .ref T.heap.size :: rest, locked := none }) _
  jvm_step X₁.here [X₁.here.top, hexec, d3', Value.category]
  exact hsteps
/-- 'throw new E("text")': new; dup; ldc; invokespecial; athrow -/
theorem vx_throwS {cc : ByteArray} {pc : Nat} (hexec : p.tables.exec = Jvm.exec) (hb : c.code = cc) (hl : l.stackTraces = false) {own cls text : String} {names : List String} {ik is ic mc ms sa : Nat} {A : Nat → Prop}
    (hown : s.vm.findClass own = some m.cls) (hcls : Bundle.fit cls = true) (hnames : ∀ n ∈ names, Bundle.fit n = true)
    (hk : (Cond.classLink own ik cls).before args s = true) (hini : (Cond.initialized cls).before args s = true) (hstr : vk_R own is text sa s) (hat : ∀ w ∈ vx_atS own ic cls names, w.before args s = true)
    (hgood : ∀ w ∈ Cond.classLink own ik cls :: Cond.initialized cls :: vx_atS own ic cls names, vx_ot w = true)
    (hU : vx_Zq Bundle.tN "UNASSIGNED_STACK" Bundle.steD A s s.heap) (hN : vx_Zq Bundle.tN "SUPPRESSED_SENTINEL" Bundle.listD A s s.heap) (hS : va_S A s.heap H locs) (hsize : ls.size = c.maxLocals)
    (d0 : decode cc pc = .ok (.new ik, 3)) (d3 : decode cc (pc + 3) = .ok (.dup, 1)) (d4 : decode cc (pc + 4) = .ok (.ldc is, 2)) (d6 : decode cc (pc + 6) = .ok (.invokespecial ic, 3)) (d9 : decode cc (pc + 9) = .ok (.athrow, 1))
    (hout : ∀ x ∈ c.exceptionTable.toList, covers x (pc + 9) = false)
    (hRframes : names.length + 3 < R.frames) (hRlocals : (rest.map fun v => v.category).sum + (13 * (names.length + 1) + 43) ≤ R.locals) (hRcells : cells + 1 ≤ R.cells) (hRslots : slots + 6 ≤ R.slots) (hlocks : meth.locks = false)
    (hx : ∀ t : State, s.vm.Alike t.vm → H.size ≤ t.heap.size → (∀ q : Nat, q < H.size → t.heap[q]? = H[q]?) → XC cls s t)
    (hf : ∀ z ∈ locs, free z.base) (hc : cells + 1 ≤ mc) (hs : slots + 6 ≤ ms) :
    W p l e R s m args below meth c H locs cells slots (vx_MQ below Qc XC args s mc ms free) (F0 m pc ls rest) := by
  intro T hT X
  have htr : e.platform.stackTraces = false := (show e.platform.stackTraces = l.stackTraces by rw [X.admits.platform]).trans hl
  have Y := vx_rebase X (R' := { frames := R.frames, locals := R.locals, cells := 1, slots := 6 }) (Nat.le_refl _) (Nat.le_refl _) hRcells hRslots
  obtain ⟨s', hA⟩ : ∃ z, z = (T.setVm s.vm).setFrames (.invoking m args :: below) := ⟨_, rfl⟩
  rw [← hA] at Y
  have hvm : s'.vm = s.vm := by rw [hA]; rfl
  have hhp : s'.heap = H := by rw [hA]; exact hT
  have hW0 : s.WarmedH s'.vm := by rw [hvm]; exact State.WarmedH.refl s
  have hat' : ∀ w ∈ vx_atS own ic cls names, w.before args s' = true := fun w hw => vx_ot_at hW0 hvm.symm (hgood w (List.mem_cons_of_mem _ (List.mem_cons_of_mem _ hw))) (hat w hw)
  have hk' : (Cond.classLink own ik cls).before args s' = true := vx_ot_at hW0 hvm.symm (hgood _ List.mem_cons_self) hk
  have hini' : (Cond.initialized cls).before args s' = true := vx_ot_at hW0 hvm.symm (hgood _ (List.mem_cons_of_mem _ List.mem_cons_self)) hini
  have hU' : vx_Zq Bundle.tN "UNASSIGNED_STACK" Bundle.steD A s' s'.heap := by rw [hhp]; exact vx_Zq.moved hW0.alike (hU.kept hS.2.1)
  have hN' : vx_Zq Bundle.tN "SUPPRESSED_SENTINEL" Bundle.listD A s' s'.heap := by rw [hhp]; exact vx_Zq.moved hW0.alike (hN.kept hS.2.1)
  have h : ∀ w ∈ Bundle.ownAtoms own ic cls names, w.before args s' = true := vx_own hat' (vx_isRefq hU'.1) (vx_isRefq hN'.1) hU'.2.word hN'.2.word
  have hown' : s'.vm.findClass own = some m.cls := by rw [hvm]; exact hown
  have hins : (Cond.instantiable cls 6).before args s' = true := h _ (by simp [Bundle.ownAtoms])
  obtain ⟨vm₁, cX, kX, hfX, hkX, -, -, X₁, st1⟩ := Y.newCold hexec (own := own) (C := cls) (index := ik) (n := 6) hown' hk' hins hini'
    (g := F0 m pc ls rest) rfl (by rw [hb]; exact d0) (Nat.le_refl _) (Nat.le_refl _)
  generalize hT1 : (T.setVm vm₁).pushCell { cls := cX, slots := kX.instanceTypes.map defaultValue, vm := .none } = T1 at X₁ st1
  have hcat : (Value.ref T.heap.size).category = 1 := rfl
  have hcellA : T1.heap[T.heap.size]? = some (freshCell cX kX) := by rw [← hT1]; exact State.heap_pushCell_size _ _
  have d3' : decode c.code (pc + 3) = .ok (.dup, 1) := by rw [hb]; exact d3
  have d4' : decode c.code (pc + 4) = .ok (.ldc is, 2) := by rw [hb]; exact d4
  have hstr' : vk_R own is text sa s' := vk_R.warm hW0 hstr
  obtain ⟨U, hsteps, hrun, hend, hW, hsame, ce, hce, hO⟩ := X₁.ctorThrowS hexec htr (own := own) (cls := cls) (names := names) (ic := ic) hown' hcls hnames h (fun x hx => nomatch hx) hfX hkX hcellA (by rw [hhp, hT]; exact Nat.le_refl _) (msg := .ref sa) rfl
    (g := { method := m, pc := pc + 6, locals := ls, stack := .ref sa :: .ref T.heap.size :: .ref T.heap.size :: rest, locked := none }) rfl hsize rfl rfl (rest := rest) rfl
    (by rw [hb]; exact d6) (by rw [hb]; exact d9) hout hRframes (by simp only [List.map_cons, List.sum_cons, hcat]; omega) hlocks
  obtain ⟨f1, f2⟩ := vx_frame hsame
  rw [hhp] at f1 f2
  have hWs : s.WarmedH U.vm := State.WarmedH.trans hW0 hW
  have hcl : s.vm.findClass cls = some ce.cls := by
    have h9 := hO.cls
    rw [hvm] at h9
    exact h9
  have hall : s.sameButNew ({ U with vm := s.vm } : State) locs mc ms := by
    subst hA
    obtain ⟨e1, e2⟩ := hsame
    rw [State.setFrames_setFrames] at e1
    have h2 : (T.setVm s.vm).sameButNew ({ U with vm := s.vm } : State) [] (0 + 1) (0 + 6) := ⟨e1, e2⟩
    have h3 := X.same.trans h2
    rw [List.append_nil] at h3
    exact h3.mono hc hs
  refine ⟨U, ?_, .threw T.heap.size, hrun, hend, Or.inr ⟨T.heap.size, rfl, cls, ce, locs, hx U hWs.alike f1 (fun q hq => f2 q hq (fun z hz => nomatch hz)), hce, hO.vm, hcl, hWs, hall, hf⟩⟩
  refine st1 _ ?_
  show Steps p.tables e below (T1.setTop { method := m, pc := pc + 3, locals := ls, stack := .ref T.heap.size :: rest, locked := none }) _
  jvm_step X₁.here [X₁.here.top, hexec, d3', Value.category]
  exact X₁.ldcString hexec (own := own) (text := text) (index := is) (a := sa) hown' hstr'.1 hstr'.2
    (g := { method := m, pc := pc + 4, locals := ls, stack := .ref T.heap.size :: .ref T.heap.size :: rest, locked := none }) rfl d4' _ hsteps
/-- 'throw new E("text")', the text by a wide index -/
theorem vx_throwSW {cc : ByteArray} {pc : Nat} (hexec : p.tables.exec = Jvm.exec) (hb : c.code = cc) (hl : l.stackTraces = false) {own cls text : String} {names : List String} {ik is ic mc ms sa : Nat} {A : Nat → Prop}
    (hown : s.vm.findClass own = some m.cls) (hcls : Bundle.fit cls = true) (hnames : ∀ n ∈ names, Bundle.fit n = true)
    (hk : (Cond.classLink own ik cls).before args s = true) (hini : (Cond.initialized cls).before args s = true) (hstr : vk_R own is text sa s) (hat : ∀ w ∈ vx_atS own ic cls names, w.before args s = true)
    (hgood : ∀ w ∈ Cond.classLink own ik cls :: Cond.initialized cls :: vx_atS own ic cls names, vx_ot w = true)
    (hU : vx_Zq Bundle.tN "UNASSIGNED_STACK" Bundle.steD A s s.heap) (hN : vx_Zq Bundle.tN "SUPPRESSED_SENTINEL" Bundle.listD A s s.heap) (hS : va_S A s.heap H locs) (hsize : ls.size = c.maxLocals)
    (d0 : decode cc pc = .ok (.new ik, 3)) (d3 : decode cc (pc + 3) = .ok (.dup, 1)) (d4 : decode cc (pc + 4) = .ok (.ldc_w is, 3)) (d7 : decode cc (pc + 7) = .ok (.invokespecial ic, 3)) (d10 : decode cc (pc + 10) = .ok (.athrow, 1))
    (hout : ∀ x ∈ c.exceptionTable.toList, covers x (pc + 10) = false)
    (hRframes : names.length + 3 < R.frames) (hRlocals : (rest.map fun v => v.category).sum + (13 * (names.length + 1) + 43) ≤ R.locals) (hRcells : cells + 1 ≤ R.cells) (hRslots : slots + 6 ≤ R.slots) (hlocks : meth.locks = false)
    (hx : ∀ t : State, s.vm.Alike t.vm → H.size ≤ t.heap.size → (∀ q : Nat, q < H.size → t.heap[q]? = H[q]?) → XC cls s t)
    (hf : ∀ z ∈ locs, free z.base) (hc : cells + 1 ≤ mc) (hs : slots + 6 ≤ ms) :
    W p l e R s m args below meth c H locs cells slots (vx_MQ below Qc XC args s mc ms free) (F0 m pc ls rest) := by
  intro T hT X
  have htr : e.platform.stackTraces = false := (show e.platform.stackTraces = l.stackTraces by rw [X.admits.platform]).trans hl
  have Y := vx_rebase X (R' := { frames := R.frames, locals := R.locals, cells := 1, slots := 6 }) (Nat.le_refl _) (Nat.le_refl _) hRcells hRslots
  obtain ⟨s', hA⟩ : ∃ z, z = (T.setVm s.vm).setFrames (.invoking m args :: below) := ⟨_, rfl⟩
  rw [← hA] at Y
  have hvm : s'.vm = s.vm := by rw [hA]; rfl
  have hhp : s'.heap = H := by rw [hA]; exact hT
  have hW0 : s.WarmedH s'.vm := by rw [hvm]; exact State.WarmedH.refl s
  have hat' : ∀ w ∈ vx_atS own ic cls names, w.before args s' = true := fun w hw => vx_ot_at hW0 hvm.symm (hgood w (List.mem_cons_of_mem _ (List.mem_cons_of_mem _ hw))) (hat w hw)
  have hk' : (Cond.classLink own ik cls).before args s' = true := vx_ot_at hW0 hvm.symm (hgood _ List.mem_cons_self) hk
  have hini' : (Cond.initialized cls).before args s' = true := vx_ot_at hW0 hvm.symm (hgood _ (List.mem_cons_of_mem _ List.mem_cons_self)) hini
  have hU' : vx_Zq Bundle.tN "UNASSIGNED_STACK" Bundle.steD A s' s'.heap := by rw [hhp]; exact vx_Zq.moved hW0.alike (hU.kept hS.2.1)
  have hN' : vx_Zq Bundle.tN "SUPPRESSED_SENTINEL" Bundle.listD A s' s'.heap := by rw [hhp]; exact vx_Zq.moved hW0.alike (hN.kept hS.2.1)
  have h : ∀ w ∈ Bundle.ownAtoms own ic cls names, w.before args s' = true := vx_own hat' (vx_isRefq hU'.1) (vx_isRefq hN'.1) hU'.2.word hN'.2.word
  have hown' : s'.vm.findClass own = some m.cls := by rw [hvm]; exact hown
  have hins : (Cond.instantiable cls 6).before args s' = true := h _ (by simp [Bundle.ownAtoms])
  obtain ⟨vm₁, cX, kX, hfX, hkX, -, -, X₁, st1⟩ := Y.newCold hexec (own := own) (C := cls) (index := ik) (n := 6) hown' hk' hins hini'
    (g := F0 m pc ls rest) rfl (by rw [hb]; exact d0) (Nat.le_refl _) (Nat.le_refl _)
  generalize hT1 : (T.setVm vm₁).pushCell { cls := cX, slots := kX.instanceTypes.map defaultValue, vm := .none } = T1 at X₁ st1
  have hcat : (Value.ref T.heap.size).category = 1 := rfl
  have hcellA : T1.heap[T.heap.size]? = some (freshCell cX kX) := by rw [← hT1]; exact State.heap_pushCell_size _ _
  have d3' : decode c.code (pc + 3) = .ok (.dup, 1) := by rw [hb]; exact d3
  have d4' : decode c.code (pc + 4) = .ok (.ldc_w is, 3) := by rw [hb]; exact d4
  have hstr' : vk_R own is text sa s' := vk_R.warm hW0 hstr
  obtain ⟨U, hsteps, hrun, hend, hW, hsame, ce, hce, hO⟩ := X₁.ctorThrowS hexec htr (own := own) (cls := cls) (names := names) (ic := ic) hown' hcls hnames h (fun x hx => nomatch hx) hfX hkX hcellA (by rw [hhp, hT]; exact Nat.le_refl _) (msg := .ref sa) rfl
    (g := { method := m, pc := pc + 7, locals := ls, stack := .ref sa :: .ref T.heap.size :: .ref T.heap.size :: rest, locked := none }) rfl hsize rfl rfl (rest := rest) rfl
    (by rw [hb]; exact d7) (by rw [hb]; exact d10) hout hRframes (by simp only [List.map_cons, List.sum_cons, hcat]; omega) hlocks
  obtain ⟨f1, f2⟩ := vx_frame hsame
  rw [hhp] at f1 f2
  have hWs : s.WarmedH U.vm := State.WarmedH.trans hW0 hW
  have hcl : s.vm.findClass cls = some ce.cls := by
    have h9 := hO.cls
    rw [hvm] at h9
    exact h9
  have hall : s.sameButNew ({ U with vm := s.vm } : State) locs mc ms := by
    subst hA
    obtain ⟨e1, e2⟩ := hsame
    rw [State.setFrames_setFrames] at e1
    have h2 : (T.setVm s.vm).sameButNew ({ U with vm := s.vm } : State) [] (0 + 1) (0 + 6) := ⟨e1, e2⟩
    have h3 := X.same.trans h2
    rw [List.append_nil] at h3
    exact h3.mono hc hs
  refine ⟨U, ?_, .threw T.heap.size, hrun, hend, Or.inr ⟨T.heap.size, rfl, cls, ce, locs, hx U hWs.alike f1 (fun q hq => f2 q hq (fun z hz => nomatch hz)), hce, hO.vm, hcl, hWs, hall, hf⟩⟩
  refine st1 _ ?_
  show Steps p.tables e below (T1.setTop { method := m, pc := pc + 3, locals := ls, stack := .ref T.heap.size :: rest, locked := none }) _
  jvm_step X₁.here [X₁.here.top, hexec, d3', Value.category]
  exact X₁.ldcStringW hexec (own := own) (text := text) (index := is) (a := sa) hown' hstr'.1 hstr'.2
    (g := { method := m, pc := pc + 4, locals := ls, stack := .ref T.heap.size :: .ref T.heap.size :: rest, locked := none }) rfl d4' _ hsteps
end Ends
section Bodies
variable {l : Launch}
theorem vx_ofW {y : MethodName} {ws ws' : List Cond} {rm : Room} {Pc : Array Value → State → Prop} {Qc : Array Value → State → Outcome → State → Prop} {XC : String → State → State → Prop} {mc ms : Nat} {free : Addr → Prop} {cc : ByteArray} {maxL : Nat} {ret : Option FieldType}
    (hy : plainName y.cls = true) (hw : ws = Cond.code y cc maxL ret :: ws')
    (body : ∀ p e s m args below meth c s₁, BodyLoose p l y (headSpec ws rm) cc maxL ret e s m args below meth c s₁ → c.maxLocals = maxL → (∀ x ∈ c.exceptionTable.toList, False) → Pc args s →
      W p l e (headSpec ws rm).room s m args below meth c s.heap [] 0 0 (vx_MQ below Qc XC args s mc ms free) (entryFrame m args maxL)) : vx_Met l y ws rm Pc Qc XC mc ms free := by
  refine MetFree.of_bodyS (code := cc) (maxLocals := maxL) (ret := ret) hy ?_ ?_
  · intro args s m h hn
    obtain ⟨meth, c, h1, h2, h3, h4, h5, h6, -, -⟩ := Cond.code_spec hn (atoms_spec (ws := ws) h _ (by rw [hw]; exact List.mem_cons_self))
    exact ⟨meth, c, h1, h2, h3, h4, h5, h6⟩
  · intro p e s m args below meth c s₁ B hml hP _
    have hh0 : s₁.heap = s.heap := by rw [B.state]; rfl
    have ht : ∀ x ∈ c.exceptionTable.toList, False := by
      obtain ⟨meth9, c9, h1, h2, -, -, -, -, h7, -⟩ := Cond.code_spec B.named (atoms_spec (ws := ws) B.pre _ (by rw [hw]; exact List.mem_cons_self))
      cases Option.some.inj (h1.symm.trans B.method)
      cases Option.some.inj (h2.symm.trans (Stand.of_body B).code)
      intro x hx
      rw [Array.isEmpty_iff.mp h7] at hx
      cases hx
    obtain ⟨t, a1, o, b1, b2, b3⟩ := body p e s m args below meth c s₁ B hml ht hP s₁ hh0 (Stand.of_body B)
    exact ⟨t, o, a1, b1, b2, b3⟩
/-- the table of a body with handlers -/
theorem vx_table {p : Program} {x y : MethodName} {S : Spec} {cc bytes : ByteArray} {maxL maxL' : Nat} {ret ret' : Option FieldType} {e : Env} {s s₁ : State} {m : MethodId} {args : Array Value} {below : List Frame} {meth : Method} {c : Code} {hh : List (Nat × Nat × Nat × Nat)}
    (B : BodyLoose p l y S cc maxL ret e s m args below meth c s₁) (h : (Cond.codeWith y bytes maxL' ret' hh).before args s = true) : c.exceptionTable.toList = tableOf hh := by
  obtain ⟨m9, meth9, c9, hn9, h1, h2, -, -, h6, -⟩ := Cond.codeWith_spec h
  cases Option.some.inj (hn9.symm.trans B.named)
  cases Option.some.inj (h1.symm.trans B.method)
  cases Option.some.inj (h2.symm.trans (Stand.of_body B).code)
  rw [← h6, table_eq]
end Bodies
end VXA
/-! ===== END ===== -/
/-! ===== BEGIN a static call of a method with an exception table ===== -/
section VXS
variable {p : Program} {l : Launch} {e : Env} {R : Room} {s : State} {m : MethodId} {args : Array Value} {below : List Frame} {meth : Method} {c : Code} {T : State} {H : Heap} {locs : List Loc} {cells slots : Nat}
abbrev vx_CSW (R : Room) (s : State) (args : Array Value) (own : String) (index : Nat) (y : MethodName) (bytes : ByteArray) (maxL : Nat) (ret : Option FieldType) (hh : List (Nat × Nat × Nat × Nat)) (ws : List Cond) (rm : Room) (mc ms n : Nat) : Prop :=
  (rm.cells = mc ∧ rm.slots = ms ∧ rm.frames + 1 ≤ R.frames ∧ 8 + (maxL + 11) + rm.locals ≤ R.locals ∧ (∀ w ∈ ws, ∀ (a' : Array Value) (U : State), s.WarmedH U.vm → w.before a' U = true) ∧ Cond.codeWith y bytes maxL ret hh ∈ ws) ∧
  (Cond.codeWith y bytes maxL ret hh).before args s = true ∧ (Cond.initialized y.cls).before args s = true ∧ (y.cls ≠ "java/lang/invoke/MethodHandle" ∧ y.cls ≠ "java/lang/invoke/VarHandle") ∧
  (∀ sig, parseMethodDescriptor y.desc = some sig → n = sig.parameters.length) ∧ (Cond.methodLink own index y).before args s = true ∧ (Cond.static y).before args s = true
theorem vx_cwSW {own : String} {index maxL mc ms : Nat} {y : MethodName} {bytes : ByteArray} {ret : Option FieldType} {hh : List (Nat × Nat × Nat × Nat)} {Ts ws ws' : List Cond} {rm : Room} (n : Nat) (ht : ∀ w ∈ Ts, w.before args s = true) (hT : GoodIn Ts (va_wsS own index y ws)) (hw : ws = Cond.codeWith y bytes maxL ret hh :: ws') (hrc : rm.cells = mc) (hrs : rm.slots = ms)
    (hd : y.cls ≠ "java/lang/invoke/MethodHandle" ∧ y.cls ≠ "java/lang/invoke/VarHandle" ∧ (parseMethodDescriptor y.desc).map (fun d => d.parameters.length) = some n) (hR : rm.frames + 1 ≤ R.frames ∧ 8 + (maxL + 11) + rm.locals ≤ R.locals) :
    vx_CSW R s args own index y bytes maxL ret hh ws rm mc ms n := by
  have ok : ∀ w ∈ va_wsS own index y ws, w.before args s = true := fun w h => ht w (hT w h).1
  have hG : GoodIn Ts ws := fun w h => hT w (by unfold va_wsS; exact List.mem_append_right _ h)
  have hc : Cond.codeWith y bytes maxL ret hh ∈ ws := by rw [hw]; exact List.mem_cons_self
  refine ⟨⟨hrc, hrs, hR.1, hR.2, pay_in ht hG, hc⟩, ht _ (hG _ hc).1, ok _ (by simp [va_wsS]), ⟨hd.1, hd.2.1⟩, fun sig h => ?_, ok _ (by simp [va_wsS]), ok _ (by simp [va_wsS])⟩
  have h2 := hd.2.2
  rw [h] at h2
  exact (Option.some.inj h2).symm
theorem vx_callSW (X : Stand p l e R s m args below meth c T locs cells slots) (hexec : p.tables.exec = Jvm.exec) {own : String} {index : Nat} {y : MethodName} {bytes : ByteArray} {maxL : Nat} {ret : Option FieldType} {hh : List (Nat × Nat × Nat × Nat)}
    (hown : s.vm.findClass own = some m.cls) (hlink : (Cond.methodLink own index y).before args s = true) (hstat : (Cond.static y).before args s = true) (hinit : (Cond.initialized y.cls).before args s = true)
    (hcode : (Cond.codeWith y bytes maxL ret hh).before args s = true) (hy : y.cls ≠ "java/lang/invoke/MethodHandle" ∧ y.cls ≠ "java/lang/invoke/VarHandle")
    {W9 : Nat} {Pre : Pt → Array Value → Prop} {Post : Pt → Array Value → Option Value → Pt → Prop} (hK : Back l R p e below s args y 3 W9 Pre Post)
    {g : JFrame} (hg : g.method = m) (hsize : g.locals.size = c.maxLocals) {argsL rest : List Value} (hlen : ∀ sig, parseMethodDescriptor y.desc = some sig → argsL.length = sig.parameters.length)
    (hstack : g.stack = argsL.reverse ++ rest) (hW : 2 * g.monitorRoom + (rest.map fun v => v.category).sum ≤ W9) (hdg : decode c.code g.pc = .ok (.invokestatic index, 3))
    (hpre : ∀ vm₁, s.WarmedH vm₁ → Pre ⟨T.setVm vm₁, locs, cells, slots⟩ argsL.toArray) :
    ∃ (v : Option Value) (vm₁ : Vm) (B : Pt), s.WarmedH vm₁ ∧ Stand p l e R s m args below meth c B.U B.locs B.cells B.slots ∧ Post ⟨T.setVm vm₁, locs, cells, slots⟩ argsL.toArray v B ∧
      ∀ target, Steps p.tables e below (B.U.setTop { g with pc := g.pc + 3, stack := v.toList ++ rest }) target → Steps p.tables e below (T.setTop g) target := by
  obtain ⟨mk, methM, cM, hnamed, hmethM, -, -, -, -, -, -, hsigM⟩ := Cond.codeWith_spec hcode
  have hstatic : methM.isStatic = true := Cond.static_spec hnamed hmethM hstat
  obtain ⟨kP, hkP, -⟩ := className_of_methodNamed hnamed
  have hinitP : kP.init = .initialized := Cond.initialized_spec (findClass_of_methodNamed hnamed) hkP hinit
  obtain ⟨vm₁, X₁, hstep₁⟩ := X.invokestatic hexec hown hlink hnamed hmethM hstatic hkP hinitP hy (g := g) hg (argsL := argsL) (rest := rest) (hlen _ hsigM) hstack hdg
  obtain ⟨v, B, X', hpost, hsteps⟩ := hK m meth c ⟨T.setVm vm₁, locs, cells, slots⟩ { g with stack := rest } (.invokestatic index) mk argsL.toArray X₁ hg hsize hdg hW (X₁.named hnamed) (hpre vm₁ X₁.warmed)
  exact ⟨v, vm₁, B, X₁.warmed, X', hpost, fun target h => hstep₁ _ fun acts => by rw [doInvoke_state]; exact hsteps.trans h⟩
theorem vx_runSW {y : MethodName} {bytes cc : ByteArray} {maxL nL mc ms n index : Nat} {ret : Option FieldType} {hh : List (Nat × Nat × Nat × Nat)} {ws : List Cond} {rm : Room} {Pc : Array Value → State → Prop} {Qc : Array Value → State → Outcome → State → Prop} {free : Addr → Prop} {Ts : List Cond} {own : String} {As rest : List Value} {g : JFrame}
    (S : CallFix p m c cc nL s args Ts own) (hM : Met l y ws rm Pc Qc mc ms free) (cw : vx_CSW R s args own index y bytes maxL ret hh ws rm mc ms n) (hp : PreS s H Pc As)
    (hg : g.method = m) (hn : As.length = n) (hsize : g.locals.size = nL) (hstack : g.stack = As.reverse ++ rest) (hW : 2 * g.monitorRoom + (rest.map fun v => v.category).sum ≤ 8) (hdg : decode cc g.pc = .ok (.invokestatic index, 3)) (hf : cells + mc ≤ R.cells ∧ slots + ms ≤ R.slots) :
    va_Run p l e R s m args below meth c H locs cells slots mc ms g rest (Qc As.toArray) (free) := by
  obtain ⟨⟨hrc, hrs, hfr, hlo, hws, hcw⟩, hcode, hini, hy, hlen, hl, hstt⟩ := cw
  have hK : Back l R p e below s args y 3 8 (PreOf R mc ms Pc) (PostOf Qc mc ms free) := va_backW (hh := hh) (bytes := bytes) (maxL := maxL) (ret := ret) hM hp.1 hrc hrs hfr hlo hws hcw (fun a' U hW => word_at hW (Or.inl (by first | rfl | simp [Cond.onTables, Cond.keeps, Cond.steady])) hini)
  obtain ⟨hx, hb, hml, ho, -⟩ := S
  intro T hT X
  obtain ⟨v, vm₁, ⟨U', l2, c2, s2⟩, hW₁, X', ⟨g', mk, t, L, e1, e2, hq, h1, hL, h2, h3⟩, st⟩ := vx_callSW X hx (hh := hh) (bytes := bytes) (maxL := maxL) (ret := ret) ho hl hstt hini hcode hy hK hg (hsize.trans hml.symm) (argsL := As) (rest := rest) (fun sig h => hn.trans (hlen sig h)) hstack hW (by rw [hb]; exact hdg)
    (fun vm₁ hW₁ => ⟨hf.1, hf.2, hp.2 (T.setVm vm₁) hT hW₁⟩)
  dsimp only [Pt.U, Pt.locs, Pt.cells, Pt.slots] at X' e1 e2 h1 h2 h3 st
  subst h1; subst h2; subst h3
  exact ⟨v, (T.setVm vm₁).calling g' mk As.toArray, t, U', L, hT, X', hL, e1, e2, hq, st⟩
/-- a thing of a world lies in the heap -/
theorem vx_lt {D : va_G} {cl : List vw_C} {ws : va_W} {H1 : Heap} (h : va_P D cl ws H1) {k : Nat} {q : Nat × va_E} (hk : ws[k]? = some q) : q.1 < H1.size := (h k q hk).lt
end VXS
/-! ===== END ===== -/
/-! ===== BEGIN methods with a table of their own: called by a name, returning or throwing ===== -/
section VXH
/-! vx_backW, vx_callVX, vx_callSX, vx_callVW, vx_runVW, vx_runVX, vx_runSX, vx_ofWH follow the same proofs as their sisters above (Free/Laws.lean, Shelf42/LK1.lean); vx_outP calls Shelf42/NT130.lean (outThrough). -/
section
variable {l : Launch} {R : Room} {p : Program} {e : Env} {below : List Frame} {s : State} {sargs : Array Value} {y : MethodName} {len W9 : Nat}
theorem vx_backW {ws : List Cond} {rm : Room} {Pc : Array Value → State → Prop} {Qc : Array Value → State → Outcome → State → Prop} {XC : String → State → State → Prop} {mc ms : Nat} {free : Addr → Prop} {bytes : ByteArray} {maxL : Nat} {ret : Option FieldType} {hh : List (Nat × Nat × Nat × Nat)}
    (hM : vx_Met l y ws rm Pc Qc XC mc ms free) (hblind : FrameBlind Pc) (hrc : rm.cells = mc) (hrs : rm.slots = ms)
    (hframes : rm.frames + 1 ≤ R.frames) (hlocals : W9 + (maxL + 11) + rm.locals ≤ R.locals)
    (hws : ∀ w ∈ ws, ∀ a' U, s.WarmedH U.vm → w.before a' U = true) (hcode : Cond.codeWith y bytes maxL ret hh ∈ ws) (hinit : ∀ a' U, s.WarmedH U.vm → (Cond.initialized y.cls).before a' U = true) :
    vx_Back l R p e below s sargs y len W9 (PreOf R mc ms Pc) (PostOf Qc mc ms free) (vx_Post XC mc ms free) := by
  intro m meth c A g ig mk a X hg hsize hdg hW hn hp
  have h1 : (headSpec ws rm).pre.before a A.U = true := atoms_intro fun w hw => hws w hw _ _ X.warmed
  have h2 : (Cond.codeWith y bytes maxL ret hh).before a A.U = true := hws _ hcode _ _ X.warmed
  have h3 : (Cond.initialized y.cls).before a A.U = true := hinit _ _ X.warmed
  have h4 : A.cells + (headSpec ws rm).room.cells ≤ R.cells := by rw [show (headSpec ws rm).room.cells = mc from hrc]; exact hp.1
  have h5 : A.slots + (headSpec ws rm).room.slots ≤ R.slots := by rw [show (headSpec ws rm).room.slots = ms from hrs]; exact hp.2.1
  have hPc : Pc a (A.U.calling g mk a) := hblind _ _ _ _ hp.2.2
  obtain ⟨U, Ls, c0, s0⟩ := A
  dsimp only [Pt.U, Pt.locs, Pt.cells, Pt.slots] at h1 h2 h3 h4 h5 X hn hPc ⊢
  obtain ⟨m9, methY, cY, hn9, hmY, hcY, -, hlY, -⟩ := Cond.codeWith_spec h2
  cases Option.some.inj (hn9.symm.trans hn)
  obtain ⟨kY, hkY, -⟩ := className_of_methodNamed hn
  have hinitY : kY.init = .initialized := Cond.initialized_spec (findClass_of_methodNamed hn) hkY h3
  have h : At U g.method c below := by rw [hg]; exact X.here
  have hlocals9 : W9 + (maxL + 11) + (headSpec ws rm).room.locals ≤ R.locals := hlocals
  have happ : (headSpec ws rm).appliesLoose y e.platform (U.calling g mk a) = true :=
    Spec.appliesLoose_calling (g := g) h hdg hn hkY hinitY
      (X.room_calling (g := g) (R' := (headSpec ws rm).room) hsize hmY hcY hframes (by rw [hlY]; omega) h4 h5) h1
  obtain ⟨mid, hmid⟩ := h.above
  have hfr : (U.setTop g).frames = (.java g :: mid) ++ below := by rw [State.frames_setTop' g h.top, hmid]; rfl
  obtain ⟨o, s₂, hsteps, -, hend, hq⟩ := Steps.callFree hM p X.admits X.cas X.clock (acts := []) hfr happ hPc trivial
  have hq' : vx_Q Qc XC mc ms free a (U.calling g mk a) o s₂ := hq
  rw [State.frames_setTop' g h.top] at hend
  obtain ⟨g₀, hg0⟩ := Option.isSome_iff_exists.mp h.top
  obtain ⟨r, hr⟩ := State.topJava?_eq_some.mp hg0
  have hr' : (({ U with heap := s₂.heap, slotsUsed := s₂.slotsUsed } : State).setVm s₂.vm).frames = .java g₀ :: r := hr
  rcases hq' with ⟨hqc, L, hfe, hL⟩ | ⟨q, rfl, E, ce, L, hx, hce, hcv, hcl, hW₂, hsm, hL⟩
  · obtain ⟨⟨v, rfl⟩, hW₂, e2, q2, q3, q4, q5, q6⟩ := id hfe
    have e3 : s₂ = ({ (U.calling g mk a).setFrames s₂.frames with heap := s₂.heap, slotsUsed := s₂.slotsUsed } : State).setVm s₂.vm := by
      have : s₂ = ({ s₂ with vm := (U.calling g mk a).vm } : State).setVm s₂.vm := rfl
      rw [e2] at this
      exact this
    obtain ⟨c₂, i₂, len₂, hc₂, hd₂, hf₂⟩ := hend
    have hW' : U.WarmedH s₂.vm := hW₂
    have hcc : c₂ = c := by
      have h1 : s₂.code? g.method = U.code? g.method := by
        rw [State.code?_eq, State.code?_eq, hW'.alike.method?]
      exact Option.some.inj (hc₂.symm.trans (h1.trans h.code))
    subst hcc
    have hlen : len₂ = len := by rw [hdg] at hd₂; cases hd₂; rfl
    subst hlen
    have hs₂ : s₂ = (({ U with heap := s₂.heap, slotsUsed := s₂.slotsUsed } : State).setVm s₂.vm).setTop { g with pc := g.pc + len₂, stack := v.toList ++ g.stack } := by
      refine e3.trans ?_
      rw [hf₂, State.calling_eq h.top, State.setFrames_setFrames, State.setTop_of_frames _ hr', hr]
      rfl
    have hsame : U.sameButNew ({ U with heap := s₂.heap, slotsUsed := s₂.slotsUsed } : State) L mc ms := by
      refine ⟨?_, q2, q3, q4, q5, q6⟩
      obtain ⟨t, ht, -⟩ := State.frames_cons hr
      show ({ U with heap := s₂.heap, slotsUsed := s₂.slotsUsed } : State) = { U.setFrames U.frames with heap := s₂.heap, slotsUsed := s₂.slotsUsed }
      rw [State.setFrames_self ht]
    subst hg
    refine Or.inl ⟨v, ⟨(({ U with heap := s₂.heap, slotsUsed := s₂.slotsUsed } : State).setVm s₂.vm), Ls ++ L, c0 + mc, s0 + ms⟩,
      ⟨X.admits, X.cas, X.clock, X.frames, X.room, X.hears, X.method, X.code, (X.here.setHeapUsed s₂.heap s₂.slotsUsed).setVm hW'.alike, X.tail, State.WarmedH.trans X.warmed hW', X.limits, X.bytes, X.same.trans (hsame.setVm s.vm)⟩,
      ⟨g, mk, s₂, L, rfl, rfl, hqc, rfl, hL, rfl, rfl⟩, ?_⟩
    show Steps p.tables e below _ ((({ U with heap := s₂.heap, slotsUsed := s₂.slotsUsed } : State).setVm s₂.vm).setTop { g with pc := g.pc + len₂, stack := v.toList ++ g.stack })
    rw [← hs₂]
    exact hsteps
  · obtain ⟨e2, q2, q3, q4, q5, q6⟩ := id hsm
    have e3 : s₂ = ({ (U.calling g mk a).setFrames s₂.frames with heap := s₂.heap, slotsUsed := s₂.slotsUsed } : State).setVm s₂.vm := by
      have : s₂ = ({ s₂ with vm := (U.calling g mk a).vm } : State).setVm s₂.vm := rfl
      rw [e2] at this
      exact this
    have hf₂ : s₂.frames = .throwing q :: .java g :: U.frames.tail := hend
    have hW' : U.WarmedH s₂.vm := hW₂
    have hs₂ : s₂ = ((({ U with heap := s₂.heap, slotsUsed := s₂.slotsUsed } : State).setVm s₂.vm).setTop g).pushFrame (.throwing q) := by
      refine e3.trans ?_
      rw [hf₂, State.calling_eq h.top, State.setFrames_setFrames, State.pushFrame, State.frames_setTop _ hr', State.setTop_of_frames _ hr', State.setFrames_setFrames, hr]
      rfl
    have hsame : U.sameButNew ({ U with heap := s₂.heap, slotsUsed := s₂.slotsUsed } : State) L mc ms := by
      refine ⟨?_, q2, q3, q4, q5, q6⟩
      obtain ⟨t, ht, -⟩ := State.frames_cons hr
      show ({ U with heap := s₂.heap, slotsUsed := s₂.slotsUsed } : State) = { U.setFrames U.frames with heap := s₂.heap, slotsUsed := s₂.slotsUsed }
      rw [State.setFrames_self ht]
    subst hg
    refine Or.inr ⟨q, ⟨(({ U with heap := s₂.heap, slotsUsed := s₂.slotsUsed } : State).setVm s₂.vm), Ls ++ L, c0 + mc, s0 + ms⟩,
      ⟨X.admits, X.cas, X.clock, X.frames, X.room, X.hears, X.method, X.code, (X.here.setHeapUsed s₂.heap s₂.slotsUsed).setVm hW'.alike, X.tail, State.WarmedH.trans X.warmed hW', X.limits, X.bytes, X.same.trans (hsame.setVm s.vm)⟩,
      ⟨g, mk, s₂, L, E, ce, rfl, rfl, hx, hce, hcv, hcl, rfl, hL, rfl, rfl⟩, ?_⟩
    show Steps p.tables e below _ (((({ U with heap := s₂.heap, slotsUsed := s₂.slotsUsed } : State).setVm s₂.vm).setTop g).pushFrame (.throwing q))
    rw [← hs₂]
    exact hsteps
end
variable {p : Program} {l : Launch} {e : Env} {R : Room} {s : State} {m : MethodId} {args : Array Value} {below : List Frame} {meth : Method} {c : Code} {T : State} {H : Heap} {locs : List Loc} {cells slots : Nat}
theorem vx_callVX (X : Stand p l e R s m args below meth c T locs cells slots) (hexec : p.tables.exec = Jvm.exec) {own C : String} {index : Nat} {y : MethodName} {bytes : ByteArray} {maxL : Nat} {ret : Option FieldType} {hh : List (Nat × Nat × Nat × Nat)}
    (hown : s.vm.findClass own = some m.cls) (hlink : (Cond.methodLink own index y).before args s = true) (hinst : (Cond.instanceMethod y).before args s = true) (hsel : (Cond.selects C y y).before args s = true)
    (hcode : (Cond.codeWith y bytes maxL ret hh).before args s = true) (hy : y.cls ≠ "java/lang/invoke/MethodHandle" ∧ y.cls ≠ "java/lang/invoke/VarHandle")
    {W9 : Nat} {Pre : Pt → Array Value → Prop} {Post : Pt → Array Value → Option Value → Pt → Prop} {PostX : Pt → Array Value → Addr → Pt → Prop} (hK : vx_Back l R p e below s args y 3 W9 Pre Post PostX)
    {b : Addr} {cellB : Cell} (hcell : T.heap[b]? = some cellB) (hobj : cellB.vm.isStatics = false) (hcls : s.vm.findClass C = some cellB.cls)
    {g : JFrame} (hg : g.method = m) (hsize : g.locals.size = c.maxLocals) {argsL rest : List Value} (hlen : ∀ sig, parseMethodDescriptor y.desc = some sig → argsL.length = sig.parameters.length)
    (hstack : g.stack = argsL.reverse ++ .ref b :: rest) (hW : 2 * g.monitorRoom + (rest.map fun v => v.category).sum ≤ W9) (hdg : decode c.code g.pc = .ok (.invokevirtual index, 3))
    (hpre : ∀ vm₁, s.WarmedH vm₁ → Pre ⟨T.setVm vm₁, locs, cells, slots⟩ (Value.ref b :: argsL).toArray) :
    (∃ (v : Option Value) (vm₁ : Vm) (B : Pt), s.WarmedH vm₁ ∧ Stand p l e R s m args below meth c B.U B.locs B.cells B.slots ∧ Post ⟨T.setVm vm₁, locs, cells, slots⟩ (Value.ref b :: argsL).toArray v B ∧
      ∀ target, Steps p.tables e below (B.U.setTop { g with pc := g.pc + 3, stack := v.toList ++ rest }) target → Steps p.tables e below (T.setTop g) target) ∨
    (∃ (q : Addr) (vm₁ : Vm) (B : Pt), s.WarmedH vm₁ ∧ Stand p l e R s m args below meth c B.U B.locs B.cells B.slots ∧ PostX ⟨T.setVm vm₁, locs, cells, slots⟩ (Value.ref b :: argsL).toArray q B ∧
      Steps p.tables e below (T.setTop g) ((B.U.setTop { g with stack := rest }).pushFrame (.throwing q))) := by
  obtain ⟨mk, methM, hnamed, hmethM, hstM, habM⟩ := Cond.instanceMethod_spec hinst
  obtain ⟨m8, methM', cM, hn8, hmethM', -, -, -, -, -, -, hsigM⟩ := Cond.codeWith_spec hcode
  cases Option.some.inj (hn8.symm.trans hnamed)
  cases hmethM.symm.trans hmethM'
  obtain ⟨c2, r2, m2, q1, q2, q3, q4, kP, hkP, hkPi⟩ := Cond.selects_spec hsel
  cases hcls.symm.trans q1
  cases (State.methodFound?_of_named hnamed hy).symm.trans q2
  cases hnamed.symm.trans q3
  have hselP : selectMethod e.platform s.vm cellB.cls mk = .method mk := by rw [Launch.admits_selectMethod X.admits]; exact q4
  obtain ⟨vm₁, X₁, hstep₁⟩ := X.invokevirtual hexec hown hlink hnamed hmethM hstM hkP hkPi hy (a := b) (cell := cellB) hcell
    (fun z h => by rw [h] at hobj; cases hobj) hselP hmethM habM hkP hkPi (g := g) hg (argsL := argsL) (rest := rest) (hlen _ hsigM) hstack hdg
  rcases hK m meth c ⟨T.setVm vm₁, locs, cells, slots⟩ { g with stack := rest } (.invokevirtual index) mk (Value.ref b :: argsL).toArray X₁ hg hsize hdg hW (X₁.named hnamed) (hpre vm₁ X₁.warmed) with ⟨v, B, X', hpost, hsteps⟩ | ⟨q, B, X', hpost, hsteps⟩
  · exact Or.inl ⟨v, vm₁, B, X₁.warmed, X', hpost, fun target h => hstep₁ _ fun acts => by rw [doInvoke_state]; exact hsteps.trans h⟩
  · exact Or.inr ⟨q, vm₁, B, X₁.warmed, X', hpost, hstep₁ _ fun acts => by rw [doInvoke_state]; exact hsteps⟩
theorem vx_callSX (X : Stand p l e R s m args below meth c T locs cells slots) (hexec : p.tables.exec = Jvm.exec) {own : String} {index : Nat} {y : MethodName} {bytes : ByteArray} {maxL : Nat} {ret : Option FieldType} {hh : List (Nat × Nat × Nat × Nat)}
    (hown : s.vm.findClass own = some m.cls) (hlink : (Cond.methodLink own index y).before args s = true) (hstat : (Cond.static y).before args s = true) (hinit : (Cond.initialized y.cls).before args s = true)
    (hcode : (Cond.codeWith y bytes maxL ret hh).before args s = true) (hy : y.cls ≠ "java/lang/invoke/MethodHandle" ∧ y.cls ≠ "java/lang/invoke/VarHandle")
    {W9 : Nat} {Pre : Pt → Array Value → Prop} {Post : Pt → Array Value → Option Value → Pt → Prop} {PostX : Pt → Array Value → Addr → Pt → Prop} (hK : vx_Back l R p e below s args y 3 W9 Pre Post PostX)
    {g : JFrame} (hg : g.method = m) (hsize : g.locals.size = c.maxLocals) {argsL rest : List Value} (hlen : ∀ sig, parseMethodDescriptor y.desc = some sig → argsL.length = sig.parameters.length)
    (hstack : g.stack = argsL.reverse ++ rest) (hW : 2 * g.monitorRoom + (rest.map fun v => v.category).sum ≤ W9) (hdg : decode c.code g.pc = .ok (.invokestatic index, 3))
    (hpre : ∀ vm₁, s.WarmedH vm₁ → Pre ⟨T.setVm vm₁, locs, cells, slots⟩ argsL.toArray) :
    (∃ (v : Option Value) (vm₁ : Vm) (B : Pt), s.WarmedH vm₁ ∧ Stand p l e R s m args below meth c B.U B.locs B.cells B.slots ∧ Post ⟨T.setVm vm₁, locs, cells, slots⟩ argsL.toArray v B ∧
      ∀ target, Steps p.tables e below (B.U.setTop { g with pc := g.pc + 3, stack := v.toList ++ rest }) target → Steps p.tables e below (T.setTop g) target) ∨
    (∃ (q : Addr) (vm₁ : Vm) (B : Pt), s.WarmedH vm₁ ∧ Stand p l e R s m args below meth c B.U B.locs B.cells B.slots ∧ PostX ⟨T.setVm vm₁, locs, cells, slots⟩ argsL.toArray q B ∧
      Steps p.tables e below (T.setTop g) ((B.U.setTop { g with stack := rest }).pushFrame (.throwing q))) := by
  obtain ⟨mk, methM, cM, hnamed, hmethM, -, -, -, -, -, -, hsigM⟩ := Cond.codeWith_spec hcode
  have hstatic : methM.isStatic = true := Cond.static_spec hnamed hmethM hstat
  obtain ⟨kP, hkP, -⟩ := className_of_methodNamed hnamed
  have hinitP : kP.init = .initialized := Cond.initialized_spec (findClass_of_methodNamed hnamed) hkP hinit
  obtain ⟨vm₁, X₁, hstep₁⟩ := X.invokestatic hexec hown hlink hnamed hmethM hstatic hkP hinitP hy (g := g) hg (argsL := argsL) (rest := rest) (hlen _ hsigM) hstack hdg
  rcases hK m meth c ⟨T.setVm vm₁, locs, cells, slots⟩ { g with stack := rest } (.invokestatic index) mk argsL.toArray X₁ hg hsize hdg hW (X₁.named hnamed) (hpre vm₁ X₁.warmed) with ⟨v, B, X', hpost, hsteps⟩ | ⟨q, B, X', hpost, hsteps⟩
  · exact Or.inl ⟨v, vm₁, B, X₁.warmed, X', hpost, fun target h => hstep₁ _ fun acts => by rw [doInvoke_state]; exact hsteps.trans h⟩
  · exact Or.inr ⟨q, vm₁, B, X₁.warmed, X', hpost, hstep₁ _ fun acts => by rw [doInvoke_state]; exact hsteps⟩
theorem vx_callVW (X : Stand p l e R s m args below meth c T locs cells slots) (hexec : p.tables.exec = Jvm.exec) {own C : String} {index : Nat} {y : MethodName} {bytes : ByteArray} {maxL : Nat} {ret : Option FieldType} {hh : List (Nat × Nat × Nat × Nat)}
    (hown : s.vm.findClass own = some m.cls) (hlink : (Cond.methodLink own index y).before args s = true) (hinst : (Cond.instanceMethod y).before args s = true) (hsel : (Cond.selects C y y).before args s = true)
    (hcode : (Cond.codeWith y bytes maxL ret hh).before args s = true) (hy : y.cls ≠ "java/lang/invoke/MethodHandle" ∧ y.cls ≠ "java/lang/invoke/VarHandle")
    {W9 : Nat} {Pre : Pt → Array Value → Prop} {Post : Pt → Array Value → Option Value → Pt → Prop} (hK : Back l R p e below s args y 3 W9 Pre Post)
    {b : Addr} {cellB : Cell} (hcell : T.heap[b]? = some cellB) (hobj : cellB.vm.isStatics = false) (hcls : s.vm.findClass C = some cellB.cls)
    {g : JFrame} (hg : g.method = m) (hsize : g.locals.size = c.maxLocals) {argsL rest : List Value} (hlen : ∀ sig, parseMethodDescriptor y.desc = some sig → argsL.length = sig.parameters.length)
    (hstack : g.stack = argsL.reverse ++ .ref b :: rest) (hW : 2 * g.monitorRoom + (rest.map fun v => v.category).sum ≤ W9) (hdg : decode c.code g.pc = .ok (.invokevirtual index, 3))
    (hpre : ∀ vm₁, s.WarmedH vm₁ → Pre ⟨T.setVm vm₁, locs, cells, slots⟩ (Value.ref b :: argsL).toArray) :
    ∃ (v : Option Value) (vm₁ : Vm) (B : Pt), s.WarmedH vm₁ ∧ Stand p l e R s m args below meth c B.U B.locs B.cells B.slots ∧ Post ⟨T.setVm vm₁, locs, cells, slots⟩ (Value.ref b :: argsL).toArray v B ∧
      ∀ target, Steps p.tables e below (B.U.setTop { g with pc := g.pc + 3, stack := v.toList ++ rest }) target → Steps p.tables e below (T.setTop g) target := by
  obtain ⟨mk, methM, hnamed, hmethM, hstM, habM⟩ := Cond.instanceMethod_spec hinst
  obtain ⟨m8, methM', cM, hn8, hmethM', -, -, -, -, -, -, hsigM⟩ := Cond.codeWith_spec hcode
  cases Option.some.inj (hn8.symm.trans hnamed)
  cases hmethM.symm.trans hmethM'
  obtain ⟨c2, r2, m2, q1, q2, q3, q4, kP, hkP, hkPi⟩ := Cond.selects_spec hsel
  cases hcls.symm.trans q1
  cases (State.methodFound?_of_named hnamed hy).symm.trans q2
  cases hnamed.symm.trans q3
  have hselP : selectMethod e.platform s.vm cellB.cls mk = .method mk := by rw [Launch.admits_selectMethod X.admits]; exact q4
  obtain ⟨vm₁, X₁, hstep₁⟩ := X.invokevirtual hexec hown hlink hnamed hmethM hstM hkP hkPi hy (a := b) (cell := cellB) hcell
    (fun z h => by rw [h] at hobj; cases hobj) hselP hmethM habM hkP hkPi (g := g) hg (argsL := argsL) (rest := rest) (hlen _ hsigM) hstack hdg
  obtain ⟨v, B, X', hpost, hsteps⟩ := hK m meth c ⟨T.setVm vm₁, locs, cells, slots⟩ { g with stack := rest } (.invokevirtual index) mk (Value.ref b :: argsL).toArray X₁ hg hsize hdg hW (X₁.named hnamed) (hpre vm₁ X₁.warmed)
  exact ⟨v, vm₁, B, X₁.warmed, X', hpost, fun target h => hstep₁ _ fun acts => by rw [doInvoke_state]; exact hsteps.trans h⟩
abbrev vx_CVW (R : Room) (s : State) (args : Array Value) (own C : String) (index : Nat) (y : MethodName) (bytes : ByteArray) (maxL : Nat) (ret : Option FieldType) (hh : List (Nat × Nat × Nat × Nat)) (ws : List Cond) (rm : Room) (mc ms n : Nat) : Prop :=
  (rm.cells = mc ∧ rm.slots = ms ∧ rm.frames + 1 ≤ R.frames ∧ 8 + (maxL + 11) + rm.locals ≤ R.locals ∧ (∀ w ∈ ws, ∀ (a' : Array Value) (U : State), s.WarmedH U.vm → w.before a' U = true) ∧ Cond.codeWith y bytes maxL ret hh ∈ ws) ∧
  (Cond.codeWith y bytes maxL ret hh).before args s = true ∧ (Cond.initialized y.cls).before args s = true ∧ (y.cls ≠ "java/lang/invoke/MethodHandle" ∧ y.cls ≠ "java/lang/invoke/VarHandle") ∧
  (∀ sig, parseMethodDescriptor y.desc = some sig → n = sig.parameters.length) ∧ (Cond.methodLink own index y).before args s = true ∧ (Cond.instanceMethod y).before args s = true ∧ (Cond.selects C y y).before args s = true
theorem vx_cwVW {own C : String} {index maxL mc ms : Nat} {y : MethodName} {bytes : ByteArray} {ret : Option FieldType} {hh : List (Nat × Nat × Nat × Nat)} {Ts ws ws' : List Cond} {rm : Room} (n : Nat) (ht : ∀ w ∈ Ts, w.before args s = true) (hT : GoodIn Ts (wsV own index C y ws)) (hw : ws = Cond.codeWith y bytes maxL ret hh :: ws') (hrc : rm.cells = mc) (hrs : rm.slots = ms)
    (hd : y.cls = C ∧ y.cls ≠ "java/lang/invoke/MethodHandle" ∧ y.cls ≠ "java/lang/invoke/VarHandle" ∧ (parseMethodDescriptor y.desc).map (fun d => d.parameters.length) = some n) (hR : rm.frames + 1 ≤ R.frames ∧ 8 + (maxL + 11) + rm.locals ≤ R.locals) :
    vx_CVW R s args own C index y bytes maxL ret hh ws rm mc ms n := by
  obtain ⟨hC, hd⟩ := hd
  subst hC
  have ok : ∀ w ∈ wsV own index y.cls y ws, w.before args s = true := fun w h => ht w (hT w h).1
  have hG : GoodIn Ts ws := fun w h => hT w (by unfold wsV; exact List.mem_append_right _ h)
  have hc : Cond.codeWith y bytes maxL ret hh ∈ ws := by rw [hw]; exact List.mem_cons_self
  refine ⟨⟨hrc, hrs, hR.1, hR.2, pay_in ht hG, hc⟩, ht _ (hG _ hc).1, ok _ (by simp [wsV]), ⟨hd.1, hd.2.1⟩, fun sig h => ?_, ok _ (by simp [wsV]), ok _ (by simp [wsV]), ok _ (by simp [wsV])⟩
  have h2 := hd.2.2
  rw [h] at h2
  exact (Option.some.inj h2).symm
theorem vx_runVW {y : MethodName} {bytes cc : ByteArray} {maxL nL mc ms n index : Nat} {ret : Option FieldType} {hh : List (Nat × Nat × Nat × Nat)} {ws : List Cond} {rm : Room} {Pc : Array Value → State → Prop} {Qc : Array Value → State → Outcome → State → Prop} {free : Addr → Prop} {Ts : List Cond} {own C : String} {b : Addr} {As rest : List Value} {g : JFrame}
    (S : CallFix p m c cc nL s args Ts own) (hM : Met l y ws rm Pc Qc mc ms free) (cw : vx_CVW R s args own C index y bytes maxL ret hh ws rm mc ms n) (hp : PreV s H C b Pc As)
    (hg : g.method = m) (hn : As.length = n) (hsize : g.locals.size = nL) (hstack : g.stack = As.reverse ++ .ref b :: rest) (hW : 2 * g.monitorRoom + (rest.map fun v => v.category).sum ≤ 8) (hdg : decode cc g.pc = .ok (.invokevirtual index, 3)) (hf : cells + mc ≤ R.cells ∧ slots + ms ≤ R.slots) :
    va_Run p l e R s m args below meth c H locs cells slots mc ms g rest (Qc (Value.ref b :: As).toArray) free := by
  obtain ⟨⟨hrc, hrs, hfr, hlo, hws, hcw⟩, hcode, hini, hy, hlen, hl, hin, hse⟩ := cw
  have hK : Back l R p e below s args y 3 8 (PreOf R mc ms Pc) (PostOf Qc mc ms free) := va_backW (hh := hh) (bytes := bytes) (maxL := maxL) (ret := ret) hM hp.1 hrc hrs hfr hlo hws hcw (fun a' U hW => word_at hW (Or.inl (by first | rfl | simp [Cond.onTables, Cond.keeps, Cond.steady])) hini)
  obtain ⟨hx, hb, hml, ho, -⟩ := S
  obtain ⟨-, ⟨cellB, hcB, hoB, hclB⟩, hPc⟩ := hp
  intro T hT X
  obtain ⟨v, vm₁, ⟨U', l2, c2, s2⟩, hW₁, X', ⟨g', mk, t, L, e1, e2, hq, h1, hL, h2, h3⟩, st⟩ := vx_callVW X hx (C := C) (hh := hh) (bytes := bytes) (maxL := maxL) (ret := ret) ho hl hin hse hcode hy hK (by rw [hT]; exact hcB) hoB hclB hg (hsize.trans hml.symm) (argsL := As) (rest := rest) (fun sig h => hn.trans (hlen sig h)) hstack hW (by rw [hb]; exact hdg)
    (fun vm₁ hW₁ => ⟨hf.1, hf.2, hPc (T.setVm vm₁) hT hW₁⟩)
  dsimp only [Pt.U, Pt.locs, Pt.cells, Pt.slots] at X' e1 e2 h1 h2 h3 st
  subst h1; subst h2; subst h3
  exact ⟨v, (T.setVm vm₁).calling g' mk (Value.ref b :: As).toArray, t, U', L, hT, X', hL, e1, e2, hq, st⟩
section
variable {y : MethodName} {bytes cc : ByteArray} {maxL nL mc ms n index : Nat} {ret : Option FieldType} {ws : List Cond} {rm : Room} {Pc : Array Value → State → Prop} {Qc : Array Value → State → Outcome → State → Prop} {XC : String → State → State → Prop} {free : Addr → Prop} {Ts : List Cond} {own C : String} {b : Addr} {As rest : List Value} {g : JFrame}
theorem vx_runVX {hh : List (Nat × Nat × Nat × Nat)} (S : CallFix p m c cc nL s args Ts own) (hM : vx_Met l y ws rm Pc Qc XC mc ms free) (cw : vx_CVW R s args own C index y bytes maxL ret hh ws rm mc ms n) (hp : PreV s H C b Pc As)
    (hg : g.method = m) (hn : As.length = n) (hsize : g.locals.size = nL) (hstack : g.stack = As.reverse ++ .ref b :: rest) (hW : 2 * g.monitorRoom + (rest.map fun v => v.category).sum ≤ 8) (hdg : decode cc g.pc = .ok (.invokevirtual index, 3)) (hf : cells + mc ≤ R.cells ∧ slots + ms ≤ R.slots) :
    vx_Run p l e R s m args below meth c H locs cells slots mc ms g rest (Qc (Value.ref b :: As).toArray) XC free := by
  obtain ⟨⟨hrc, hrs, hfr, hlo, hws, hcw⟩, hcode, hini, hy, hlen, hl, hin, hse⟩ := cw
  have hK : vx_Back l R p e below s args y 3 8 (PreOf R mc ms Pc) (PostOf Qc mc ms free) (vx_Post XC mc ms free) := vx_backW (hh := hh) (bytes := bytes) (maxL := maxL) (ret := ret) hM hp.1 hrc hrs hfr hlo hws hcw (fun a' U hW => word_at hW (Or.inl (by first | rfl | simp [Cond.onTables, Cond.keeps, Cond.steady])) hini)
  obtain ⟨hx, hb, hml, ho, -⟩ := S
  obtain ⟨-, ⟨cellB, hcB, hoB, hclB⟩, hPc⟩ := hp
  intro T hT X
  rcases vx_callVX X hx (C := C) (hh := hh) (bytes := bytes) (maxL := maxL) (ret := ret) ho hl hin hse hcode hy hK (by rw [hT]; exact hcB) hoB hclB hg (hsize.trans hml.symm) (argsL := As) (rest := rest) (fun sig h => hn.trans (hlen sig h)) hstack hW (by rw [hb]; exact hdg)
    (fun vm₁ hW₁ => ⟨hf.1, hf.2, hPc (T.setVm vm₁) hT hW₁⟩) with ⟨v, vm₁, ⟨U', l2, c2, s2⟩, hW₁, X', ⟨g', mk, t, L, e1, e2, hq, h1, hL, h2, h3⟩, st⟩ | ⟨q, vm₁, ⟨U', l2, c2, s2⟩, hW₁, X', ⟨g', mk, t, L, E, ce, e1, e2, hq, hce, hcv, hcl, h1, hL, h2, h3⟩, st⟩
  · dsimp only [Pt.U, Pt.locs, Pt.cells, Pt.slots] at X' e1 e2 h1 h2 h3 st
    subst h1; subst h2; subst h3
    exact Or.inl ⟨v, (T.setVm vm₁).calling g' mk (Value.ref b :: As).toArray, t, U', L, hT, X', hL, e1, e2, hq, st⟩
  · dsimp only [Pt.U, Pt.locs, Pt.cells, Pt.slots] at X' e1 e2 h1 h2 h3 st hcl
    subst h1; subst h2; subst h3
    exact Or.inr ⟨q, (T.setVm vm₁).calling g' mk (Value.ref b :: As).toArray, t, U', L, E, ce, hT, X', hL, e1, e2, hq, hce, hcv, vx_cls hW₁ hcl, st⟩
theorem vx_runSX {hh : List (Nat × Nat × Nat × Nat)} (S : CallFix p m c cc nL s args Ts own) (hM : vx_Met l y ws rm Pc Qc XC mc ms free) (cw : vx_CSW R s args own index y bytes maxL ret hh ws rm mc ms n) (hp : PreS s H Pc As)
    (hg : g.method = m) (hn : As.length = n) (hsize : g.locals.size = nL) (hstack : g.stack = As.reverse ++ rest) (hW : 2 * g.monitorRoom + (rest.map fun v => v.category).sum ≤ 8) (hdg : decode cc g.pc = .ok (.invokestatic index, 3)) (hf : cells + mc ≤ R.cells ∧ slots + ms ≤ R.slots) :
    vx_Run p l e R s m args below meth c H locs cells slots mc ms g rest (Qc As.toArray) XC free := by
  obtain ⟨⟨hrc, hrs, hfr, hlo, hws, hcw⟩, hcode, hini, hy, hlen, hl, hstt⟩ := cw
  have hK : vx_Back l R p e below s args y 3 8 (PreOf R mc ms Pc) (PostOf Qc mc ms free) (vx_Post XC mc ms free) := vx_backW (hh := hh) (bytes := bytes) (maxL := maxL) (ret := ret) hM hp.1 hrc hrs hfr hlo hws hcw (fun a' U hW => word_at hW (Or.inl (by first | rfl | simp [Cond.onTables, Cond.keeps, Cond.steady])) hini)
  obtain ⟨hx, hb, hml, ho, -⟩ := S
  intro T hT X
  rcases vx_callSX X hx (hh := hh) (bytes := bytes) (maxL := maxL) (ret := ret) ho hl hstt hini hcode hy hK hg (hsize.trans hml.symm) (argsL := As) (rest := rest) (fun sig h => hn.trans (hlen sig h)) hstack hW (by rw [hb]; exact hdg)
    (fun vm₁ hW₁ => ⟨hf.1, hf.2, hp.2 (T.setVm vm₁) hT hW₁⟩) with ⟨v, vm₁, ⟨U', l2, c2, s2⟩, hW₁, X', ⟨g', mk, t, L, e1, e2, hq, h1, hL, h2, h3⟩, st⟩ | ⟨q, vm₁, ⟨U', l2, c2, s2⟩, hW₁, X', ⟨g', mk, t, L, E, ce, e1, e2, hq, hce, hcv, hcl, h1, hL, h2, h3⟩, st⟩
  · dsimp only [Pt.U, Pt.locs, Pt.cells, Pt.slots] at X' e1 e2 h1 h2 h3 st
    subst h1; subst h2; subst h3
    exact Or.inl ⟨v, (T.setVm vm₁).calling g' mk As.toArray, t, U', L, hT, X', hL, e1, e2, hq, st⟩
  · dsimp only [Pt.U, Pt.locs, Pt.cells, Pt.slots] at X' e1 e2 h1 h2 h3 st hcl
    subst h1; subst h2; subst h3
    exact Or.inr ⟨q, (T.setVm vm₁).calling g' mk As.toArray, t, U', L, E, ce, hT, X', hL, e1, e2, hq, hce, hcv, vx_cls hW₁ hcl, st⟩
end
end VXH
theorem vx_ofWH {l : Launch} {y : MethodName} {ws ws' : List Cond} {rm : Room} {Pc : Array Value → State → Prop} {Qc : Array Value → State → Outcome → State → Prop} {XC : String → State → State → Prop} {mc ms : Nat} {free : Addr → Prop} {cc : ByteArray} {maxL : Nat} {ret : Option FieldType} {hh : List (Nat × Nat × Nat × Nat)}
    (hy : plainName y.cls = true) (hw : ws = Cond.codeWith y cc maxL ret hh :: ws')
    (body : ∀ p e s m args below meth c s₁, BodyLoose p l y (headSpec ws rm) cc maxL ret e s m args below meth c s₁ → c.maxLocals = maxL → Pc args s →
      W p l e (headSpec ws rm).room s m args below meth c s.heap [] 0 0 (vx_MQ below Qc XC args s mc ms free) (entryFrame m args maxL)) : vx_Met l y ws rm Pc Qc XC mc ms free := by
  refine MetFree.of_bodyS (code := cc) (maxLocals := maxL) (ret := ret) hy ?_ ?_
  · intro args s m h hn
    obtain ⟨m9, meth, c, hn9, h1, h2, h3, h4, -, h5, h6, -⟩ := Cond.codeWith_spec (atoms_spec (ws := ws) h _ (by rw [hw]; exact List.mem_cons_self))
    cases hn.symm.trans hn9
    exact ⟨meth, c, h1, h2, h3, h4, h5, h6⟩
  · intro p e s m args below meth c s₁ B hml hP _
    have hh0 : s₁.heap = s.heap := by rw [B.state]; rfl
    obtain ⟨t, a1, o, b1, b2, b3⟩ := body p e s m args below meth c s₁ B hml hP s₁ hh0 (Stand.of_body B)
    exact ⟨t, o, a1, b1, b2, b3⟩
/-! ===== END ===== -/
end
section
/-! ===== BEGIN printed: names, fields, word lists, decode rows ===== -/
def RX0 : String := "StopSetter$Chart"
def TX0 : u_T := fun k => match k with
  | 0 => ("StopSetter$Chart", "best", "[I", true)
  | 1 => ("StopSetter$Chart", "next", "[I", true)
  | 2 => ("StopSetter$Chart", "rank", "[I", true)
  | 3 => ("StopSetter$Chart", "nodeAhead", "[I", true)
  | 4 => ("StopSetter$Chart", "endUsed", "[I", true)
  | 5 => ("StopSetter$Chart", "goUsed", "[I", true)
  | 6 => ("StopSetter$Chart", "order", "[I", true)
  | 7 => ("StopSetter$Chart", "ready", "I", false)
  | 8 => ("StopSetter$Chart", "leastCost", "I", false)
  | 9 => ("StopSetter$Chart", "secondCost", "I", false)
  | 10 => ("StopSetter$Chart", "lastNode", "I", false)
  | _ => ("StopSetter$Chart", "lastEnd", "I", false)
def tyX0 : Nat → FieldType := fun k => match k with
  | 0 => .array .int
  | 1 => .array .int
  | 2 => .array .int
  | 3 => .array .int
  | 4 => .array .int
  | 5 => .array .int
  | 6 => .array .int
  | 7 => .int
  | 8 => .int
  | 9 => .int
  | 10 => .int
  | _ => .int
abbrev wsX00 : List Cond := u_ws RX0 TX0 12
theorem nmX0 : ∀ a, a < 12 → ∀ b, b < 12 → a ≠ b → (TX0 a).2.1 ≠ (TX0 b).2.1 := by decide +kernel
theorem tyX0_ok : ∀ k, k < 12 → parseFieldDescriptor (TX0 k).2.2.1 = some (tyX0 k) := by decide +kernel
abbrev cX0_init : ByteArray := prog_2_method_1_code
def yX0_init : MethodName := ⟨RX0, "<init>", "()V"⟩
abbrev cX0_keep : ByteArray := prog_2_method_2_code
def yX0_keep : MethodName := ⟨RX0, "keep", "(I)V"⟩
abbrev cX0_isParted : ByteArray := prog_2_method_3_code
def yX0_isParted : MethodName := ⟨RX0, "isParted", "()Z"⟩
abbrev cX0_isPartedTwice : ByteArray := prog_2_method_4_code
def yX0_isPartedTwice : MethodName := ⟨RX0, "isPartedTwice", "()Z"⟩
abbrev cX0_cell : ByteArray := prog_2_method_5_code
def yX0_cell : MethodName := ⟨RX0, "cell", "(II)I"⟩
abbrev cX0_extend : ByteArray := prog_2_method_6_code
def yX0_extend : MethodName := ⟨RX0, "extend", "(LStopSetter$Grammar;II)V"⟩
abbrev cX0_stepFrom : ByteArray := prog_2_method_7_code
def yX0_stepFrom : MethodName := ⟨RX0, "stepFrom", "(ILStopSetter$Grammar;II)V"⟩
abbrev cX0_goFrom : ByteArray := prog_2_method_8_code
def yX0_goFrom : MethodName := ⟨RX0, "goFrom", "(IILStopSetter$Grammar;II)V"⟩
abbrev cX0_offer : ByteArray := prog_2_method_9_code
def yX0_offer : MethodName := ⟨RX0, "offer", "(IIIII)V"⟩
abbrev cX0_rankLevel : ByteArray := prog_2_method_10_code
def yX0_rankLevel : MethodName := ⟨RX0, "rankLevel", "()V"⟩
abbrev cX0_waysAheadOf : ByteArray := prog_2_method_11_code
def yX0_waysAheadOf : MethodName := ⟨RX0, "waysAheadOf", "(I)I"⟩
abbrev cX0_isReached : ByteArray := prog_2_method_12_code
def yX0_isReached : MethodName := ⟨RX0, "isReached", "(I)Z"⟩
abbrev cX0_finish : ByteArray := prog_2_method_13_code
def yX0_finish : MethodName := ⟨RX0, "finish", "(LStopSetter$Grammar;)V"⟩
abbrev cX0_offerLast : ByteArray := prog_2_method_14_code
def yX0_offerLast : MethodName := ⟨RX0, "offerLast", "(III)V"⟩
abbrev cX0_endInto : ByteArray := prog_2_method_15_code
def yX0_endInto : MethodName := ⟨RX0, "endInto", "(II)I"⟩
abbrev cX0_goInto : ByteArray := prog_2_method_16_code
def yX0_goInto : MethodName := ⟨RX0, "goInto", "(II)I"⟩
abbrev cX0_nodeBehind : ByteArray := prog_2_method_17_code
def yX0_nodeBehind : MethodName := ⟨RX0, "nodeBehind", "(I)I"⟩
abbrev cX0_endsInside : ByteArray := prog_2_method_18_code
def yX0_endsInside : MethodName := ⟨RX0, "endsInside", "()I"⟩
abbrev cX0_sharedSteps : ByteArray := prog_2_method_19_code
def yX0_sharedSteps : MethodName := ⟨RX0, "sharedSteps", "(LStopSetter$Grammar;)I"⟩
abbrev cX0_meetingLevel : ByteArray := prog_2_method_20_code
def yX0_meetingLevel : MethodName := ⟨RX0, "meetingLevel", "(II)I"⟩
def RX1 : String := "StopSetter$Grammar"
def TX1 : u_T := fun k => match k with
  | 0 => ("StopSetter$Grammar", "goFrom", "[I", true)
  | 1 => ("StopSetter$Grammar", "goKind", "[I", true)
  | 2 => ("StopSetter$Grammar", "goTo", "[I", true)
  | 3 => ("StopSetter$Grammar", "goCost", "[I", true)
  | 4 => ("StopSetter$Grammar", "goMark", "[I", true)
  | 5 => ("StopSetter$Grammar", "goCount", "I", false)
  | 6 => ("StopSetter$Grammar", "endFrom", "[I", true)
  | 7 => ("StopSetter$Grammar", "endCost", "[I", true)
  | 8 => ("StopSetter$Grammar", "endMark", "[I", true)
  | 9 => ("StopSetter$Grammar", "endCount", "I", false)
  | _ => ("StopSetter$Grammar", "hopeful", "[Z", true)
def tyX1 : Nat → FieldType := fun k => match k with
  | 0 => .array .int
  | 1 => .array .int
  | 2 => .array .int
  | 3 => .array .int
  | 4 => .array .int
  | 5 => .int
  | 6 => .array .int
  | 7 => .array .int
  | 8 => .array .int
  | 9 => .int
  | _ => .array .boolean
abbrev wsX10 : List Cond := u_ws RX1 TX1 11
theorem nmX1 : ∀ a, a < 11 → ∀ b, b < 11 → a ≠ b → (TX1 a).2.1 ≠ (TX1 b).2.1 := by decide +kernel
theorem tyX1_ok : ∀ k, k < 11 → parseFieldDescriptor (TX1 k).2.2.1 = some (tyX1 k) := by decide +kernel
abbrev cX1_init : ByteArray := prog_3_method_1_code
def yX1_init : MethodName := ⟨RX1, "<init>", "()V"⟩
abbrev cX1_empty : ByteArray := prog_3_method_2_code
def yX1_empty : MethodName := ⟨RX1, "empty", "()V"⟩
abbrev cX1_addGo : ByteArray := prog_3_method_3_code
def yX1_addGo : MethodName := ⟨RX1, "addGo", "(IIIII)V"⟩
abbrev cX1_addEnd : ByteArray := prog_3_method_4_code
def yX1_addEnd : MethodName := ⟨RX1, "addEnd", "(III)V"⟩
abbrev cX1_hasGo : ByteArray := prog_3_method_5_code
def yX1_hasGo : MethodName := ⟨RX1, "hasGo", "(I)Z"⟩
abbrev cX1_hasEnd : ByteArray := prog_3_method_6_code
def yX1_hasEnd : MethodName := ⟨RX1, "hasEnd", "(I)Z"⟩
abbrev cX1_markOfGo : ByteArray := prog_3_method_7_code
def yX1_markOfGo : MethodName := ⟨RX1, "markOfGo", "(I)I"⟩
abbrev cX1_markOfEnd : ByteArray := prog_3_method_8_code
def yX1_markOfEnd : MethodName := ⟨RX1, "markOfEnd", "(I)I"⟩
abbrev cX1_costOfEnd : ByteArray := prog_3_method_9_code
def yX1_costOfEnd : MethodName := ⟨RX1, "costOfEnd", "(I)I"⟩
abbrev cX1_canEnd : ByteArray := prog_3_method_10_code
def yX1_canEnd : MethodName := ⟨RX1, "canEnd", "(III)Z"⟩
abbrev cX1_canGo : ByteArray := prog_3_method_11_code
def yX1_canGo : MethodName := ⟨RX1, "canGo", "(IIII)Z"⟩
abbrev cX1_nodeBehind : ByteArray := prog_3_method_12_code
def yX1_nodeBehind : MethodName := ⟨RX1, "nodeBehind", "(II)I"⟩
abbrev cX1_isHopeful : ByteArray := prog_3_method_13_code
def yX1_isHopeful : MethodName := ⟨RX1, "isHopeful", "(I)Z"⟩
abbrev cX1_findHopeful : ByteArray := prog_3_method_14_code
def yX1_findHopeful : MethodName := ⟨RX1, "findHopeful", "()V"⟩
abbrev cX1_passHopeBack : ByteArray := prog_3_method_15_code
def yX1_passHopeBack : MethodName := ⟨RX1, "passHopeBack", "(II)V"⟩
abbrev cX1_setHopeful : ByteArray := prog_3_method_16_code
def yX1_setHopeful : MethodName := ⟨RX1, "setHopeful", "(I)V"⟩
def RX2 : String := "StopSetter$Reader"
def TX2 : u_T := fun k => match k with
  | 0 => ("StopSetter$Reader", "tape", "LStopSetter$Tape;", true)
  | 1 => ("StopSetter$Reader", "sort", "I", false)
  | 2 => ("StopSetter$Reader", "place", "I", false)
  | 3 => ("StopSetter$Reader", "behind", "I", false)
  | _ => ("StopSetter$Reader", "fault", "I", false)
def tyX2 : Nat → FieldType := fun k => match k with
  | 0 => .object "StopSetter$Tape"
  | 1 => .int
  | 2 => .int
  | 3 => .int
  | _ => .int
abbrev wsX20 : List Cond := u_ws RX2 TX2 5
theorem nmX2 : ∀ a, a < 5 → ∀ b, b < 5 → a ≠ b → (TX2 a).2.1 ≠ (TX2 b).2.1 := by decide +kernel
theorem tyX2_ok : ∀ k, k < 5 → parseFieldDescriptor (TX2 k).2.2.1 = some (tyX2 k) := by decide +kernel
abbrev cX2_init : ByteArray := prog_4_method_1_code
def yX2_init : MethodName := ⟨RX2, "<init>", "(LStopSetter$Tape;)V"⟩
abbrev cX2_read : ByteArray := prog_4_method_2_code
def yX2_read : MethodName := ⟨RX2, "read", "(LStopSetter$Grammar;)I"⟩
abbrev cX2_readGo : ByteArray := prog_4_method_3_code
def yX2_readGo : MethodName := ⟨RX2, "readGo", "(LStopSetter$Grammar;)V"⟩
abbrev cX2_readEnd : ByteArray := prog_4_method_4_code
def yX2_readEnd : MethodName := ⟨RX2, "readEnd", "(LStopSetter$Grammar;)V"⟩
abbrev cX2_goMarkHere : ByteArray := prog_4_method_5_code
def yX2_goMarkHere : MethodName := ⟨RX2, "goMarkHere", "()I"⟩
abbrev cX2_endMarkHere : ByteArray := prog_4_method_6_code
def yX2_endMarkHere : MethodName := ⟨RX2, "endMarkHere", "()I"⟩
abbrev cX2_readNumber : ByteArray := prog_4_method_7_code
def yX2_readNumber : MethodName := ⟨RX2, "readNumber", "(I)I"⟩
abbrev cX2_passIf : ByteArray := prog_4_method_8_code
def yX2_passIf : MethodName := ⟨RX2, "passIf", "(Z)V"⟩
abbrev cX2_refuse : ByteArray := prog_4_method_9_code
def yX2_refuse : MethodName := ⟨RX2, "refuse", "(I)V"⟩
abbrev cX2_advance : ByteArray := prog_4_method_10_code
def yX2_advance : MethodName := ⟨RX2, "advance", "()V"⟩
abbrev cX2_runEnd : ByteArray := prog_4_method_11_code
def yX2_runEnd : MethodName := ⟨RX2, "runEnd", "(II)I"⟩
abbrev cX2_isText : ByteArray := prog_4_method_12_code
def yX2_isText : MethodName := ⟨RX2, "isText", "(Ljava/lang/String;)Z"⟩
abbrev cX2_numberHere : ByteArray := prog_4_method_13_code
def yX2_numberHere : MethodName := ⟨RX2, "numberHere", "()I"⟩
abbrev cX2_sortOf : ByteArray := prog_4_method_14_code
def yX2_sortOf : MethodName := ⟨RX2, "sortOf", "(I)I"⟩
def RX3 : String := "StopSetter$Tape"
def TX3 : u_T := fun k => match k with
  | 0 => ("StopSetter$Tape", "signs", "[C", true)
  | _ => ("StopSetter$Tape", "length", "I", false)
def tyX3 : Nat → FieldType := fun k => match k with
  | 0 => .array .char
  | _ => .int
abbrev wsX30 : List Cond := u_ws RX3 TX3 2
theorem nmX3 : ∀ a, a < 2 → ∀ b, b < 2 → a ≠ b → (TX3 a).2.1 ≠ (TX3 b).2.1 := by decide +kernel
theorem tyX3_ok : ∀ k, k < 2 → parseFieldDescriptor (TX3 k).2.2.1 = some (tyX3 k) := by decide +kernel
abbrev cX3_init : ByteArray := prog_5_method_1_code
def yX3_init : MethodName := ⟨RX3, "<init>", "()V"⟩
abbrev cX3_addBytes : ByteArray := prog_5_method_2_code
def yX3_addBytes : MethodName := ⟨RX3, "addBytes", "(J)V"⟩
abbrev cX3_addSign : ByteArray := prog_5_method_3_code
def yX3_addSign : MethodName := ⟨RX3, "addSign", "(I)V"⟩
abbrev cX3_signAt : ByteArray := prog_5_method_4_code
def yX3_signAt : MethodName := ⟨RX3, "signAt", "(I)I"⟩
abbrev cX3_empty : ByteArray := prog_5_method_5_code
def yX3_empty : MethodName := ⟨RX3, "empty", "()V"⟩
def RX4 : String := "StopSetter"
def TX4 : u_T := fun k => match k with
  | 0 => ("StopSetter", "kindsOf", "[I", true)
  | 1 => ("StopSetter", "isName", "[Z", true)
  | 2 => ("StopSetter", "row", "[I", true)
  | 3 => ("StopSetter", "marks", "[I", true)
  | 4 => ("StopSetter", "size", "I", false)
  | 5 => ("StopSetter", "tape", "LStopSetter$Tape;", true)
  | 6 => ("StopSetter", "reader", "LStopSetter$Reader;", true)
  | 7 => ("StopSetter", "lines", "LStopSetter$Grammar;", false)
  | 8 => ("StopSetter", "draft", "LStopSetter$Grammar;", false)
  | _ => ("StopSetter", "chart", "LStopSetter$Chart;", true)
def tyX4 : Nat → FieldType := fun k => match k with
  | 0 => .array .int
  | 1 => .array .boolean
  | 2 => .array .int
  | 3 => .array .int
  | 4 => .int
  | 5 => .object "StopSetter$Tape"
  | 6 => .object "StopSetter$Reader"
  | 7 => .object "StopSetter$Grammar"
  | 8 => .object "StopSetter$Grammar"
  | _ => .object "StopSetter$Chart"
abbrev wsX40 : List Cond := u_ws RX4 TX4 10
theorem nmX4 : ∀ a, a < 10 → ∀ b, b < 10 → a ≠ b → (TX4 a).2.1 ≠ (TX4 b).2.1 := by decide +kernel
theorem tyX4_ok : ∀ k, k < 10 → parseFieldDescriptor (TX4 k).2.2.1 = some (tyX4 k) := by decide +kernel
abbrev cX4_init : ByteArray := prog_1_method_1_code
def yX4_init : MethodName := ⟨RX4, "<init>", "()V"⟩
abbrev cX4_kinds : ByteArray := prog_1_method_2_code
def yX4_kinds : MethodName := ⟨RX4, "kinds", "(II)Z"⟩
abbrev cX4_name : ByteArray := prog_1_method_3_code
def yX4_name : MethodName := ⟨RX4, "name", "(IZ)Z"⟩
abbrev cX4_word : ByteArray := prog_1_method_4_code
def yX4_word : MethodName := ⟨RX4, "word", "(I)I"⟩
abbrev cX4_drop : ByteArray := prog_1_method_5_code
def yX4_drop : MethodName := ⟨RX4, "drop", "()I"⟩
abbrev cX4_hand : ByteArray := prog_1_method_6_code
def yX4_hand : MethodName := ⟨RX4, "hand", "(II)Z"⟩
abbrev cX4_feed : ByteArray := prog_1_method_7_code
def yX4_feed : MethodName := ⟨RX4, "feed", "(JJJ)I"⟩
abbrev cX4_grammar : ByteArray := prog_1_method_8_code
def yX4_grammar : MethodName := ⟨RX4, "grammar", "()I"⟩
abbrev cX4_cost : ByteArray := prog_1_method_9_code
def yX4_cost : MethodName := ⟨RX4, "cost", "()I"⟩
abbrev cX4_second : ByteArray := prog_1_method_10_code
def yX4_second : MethodName := ⟨RX4, "second", "()I"⟩
abbrev cX4_look : ByteArray := prog_1_method_11_code
def yX4_look : MethodName := ⟨RX4, "look", "(II)I"⟩
abbrev cX4_last : ByteArray := prog_1_method_12_code
def yX4_last : MethodName := ⟨RX4, "last", "()I"⟩
abbrev cX4_sentences : ByteArray := prog_1_method_13_code
def yX4_sentences : MethodName := ⟨RX4, "sentences", "()I"⟩
abbrev cX4_settled : ByteArray := prog_1_method_14_code
def yX4_settled : MethodName := ⟨RX4, "settled", "()I"⟩
abbrev cX4_go : ByteArray := prog_1_method_15_code
def yX4_go : MethodName := ⟨RX4, "go", "(II)I"⟩
abbrev cX4_count : ByteArray := prog_1_method_16_code
def yX4_count : MethodName := ⟨RX4, "count", "(I)I"⟩
abbrev cX4_isWord : ByteArray := prog_1_method_17_code
def yX4_isWord : MethodName := ⟨RX4, "isWord", "(I)Z"⟩
abbrev cX4_hasPlace : ByteArray := prog_1_method_18_code
def yX4_hasPlace : MethodName := ⟨RX4, "hasPlace", "(I)Z"⟩
abbrev cX4_wordAt : ByteArray := prog_1_method_19_code
def yX4_wordAt : MethodName := ⟨RX4, "wordAt", "(I)I"⟩
abbrev cX4_firstPlaceOf : ByteArray := prog_1_method_20_code
def yX4_firstPlaceOf : MethodName := ⟨RX4, "firstPlaceOf", "(I)I"⟩
abbrev cX4_handMarks : ByteArray := prog_1_method_21_code
def yX4_handMarks : MethodName := ⟨RX4, "handMarks", "()I"⟩
abbrev cX4_isRaised : ByteArray := prog_1_method_22_code
def yX4_isRaised : MethodName := ⟨RX4, "isRaised", "(III)Z"⟩
abbrev cX4_solve : ByteArray := prog_1_method_23_code
def yX4_solve : MethodName := ⟨RX4, "solve", "()V"⟩
abbrev cX4_nodeOf : ByteArray := prog_1_method_24_code
def yX4_nodeOf : MethodName := ⟨RX4, "nodeOf", "(II)I"⟩
abbrev cX4_stateOf : ByteArray := prog_1_method_25_code
def yX4_stateOf : MethodName := ⟨RX4, "stateOf", "(I)I"⟩
abbrev cX4_quotesOf : ByteArray := prog_1_method_26_code
def yX4_quotesOf : MethodName := ⟨RX4, "quotesOf", "(I)I"⟩
def RX5 : String := "StopSetterModel"
def TX5 : u_T := fun k => match k with
  | 0 => ("StopSetterModel", "thrown", "I", false)
  | 1 => ("StopSetterModel", "tape", "[I", true)
  | 2 => ("StopSetterModel", "taped", "I", false)
  | 3 => ("StopSetterModel", "size", "I", false)
  | 4 => ("StopSetterModel", "sort", "[I", true)
  | 5 => ("StopSetterModel", "place", "[I", true)
  | 6 => ("StopSetterModel", "value", "[J", true)
  | 7 => ("StopSetterModel", "at", "I", false)
  | 8 => ("StopSetterModel", "fault", "I", false)
  | 9 => ("StopSetterModel", "words", "[J", true)
  | 10 => ("StopSetterModel", "holds", "I", false)
  | 11 => ("StopSetterModel", "next", "I", false)
  | 12 => ("StopSetterModel", "goes", "[I", true)
  | 13 => ("StopSetterModel", "goLine", "[I", true)
  | 14 => ("StopSetterModel", "ends", "[I", true)
  | 15 => ("StopSetterModel", "endLine", "[I", true)
  | 16 => ("StopSetterModel", "kinds", "[I", true)
  | 17 => ("StopSetterModel", "isName", "[Z", true)
  | 18 => ("StopSetterModel", "many", "I", false)
  | 19 => ("StopSetterModel", "row", "[I", true)
  | 20 => ("StopSetterModel", "byHand", "[I", true)
  | 21 => ("StopSetterModel", "least", "[I", true)
  | 22 => ("StopSetterModel", "second", "[I", true)
  | 23 => ("StopSetterModel", "endAt", "[I", true)
  | 24 => ("StopSetterModel", "goAt", "[I", true)
  | 25 => ("StopSetterModel", "nodeBehind", "[I", true)
  | 26 => ("StopSetterModel", "lastEnd", "I", false)
  | 27 => ("StopSetterModel", "isOut", "[Z", true)
  | 28 => ("StopSetterModel", "firstEnd", "[I", true)
  | _ => ("StopSetterModel", "firstGo", "[I", true)
def tyX5 : Nat → FieldType := fun k => match k with
  | 0 => .int
  | 1 => .array .int
  | 2 => .int
  | 3 => .int
  | 4 => .array .int
  | 5 => .array .int
  | 6 => .array .long
  | 7 => .int
  | 8 => .int
  | 9 => .array .long
  | 10 => .int
  | 11 => .int
  | 12 => .array .int
  | 13 => .array .int
  | 14 => .array .int
  | 15 => .array .int
  | 16 => .array .int
  | 17 => .array .boolean
  | 18 => .int
  | 19 => .array .int
  | 20 => .array .int
  | 21 => .array .int
  | 22 => .array .int
  | 23 => .array .int
  | 24 => .array .int
  | 25 => .array .int
  | 26 => .int
  | 27 => .array .boolean
  | 28 => .array .int
  | _ => .array .int
abbrev wsX50 : List Cond := u_ws RX5 TX5 30
theorem nmX5 : ∀ a, a < 30 → ∀ b, b < 30 → a ≠ b → (TX5 a).2.1 ≠ (TX5 b).2.1 := by decide +kernel
theorem tyX5_ok : ∀ k, k < 30 → parseFieldDescriptor (TX5 k).2.2.1 = some (tyX5 k) := by decide +kernel
abbrev cX5_thrown : ByteArray := prog_7_method_1_code
def yX5_thrown : MethodName := ⟨RX5, "thrown", "()I"⟩
abbrev cX5_feed : ByteArray := prog_7_method_2_code
def yX5_feed : MethodName := ⟨RX5, "feed", "(JJJ)I"⟩
abbrev cX5_lay : ByteArray := prog_7_method_3_code
def yX5_lay : MethodName := ⟨RX5, "lay", "(J)V"⟩
abbrev cX5_init : ByteArray := prog_7_method_4_code
def yX5_init : MethodName := ⟨RX5, "<init>", "()V"⟩
abbrev cX5_isLetter : ByteArray := prog_7_method_5_code
def yX5_isLetter : MethodName := ⟨RX5, "isLetter", "(I)Z"⟩
abbrev cX5_isDigit : ByteArray := prog_7_method_6_code
def yX5_isDigit : MethodName := ⟨RX5, "isDigit", "(I)Z"⟩
abbrev cX5_rank : ByteArray := prog_7_method_7_code
def yX5_rank : MethodName := ⟨RX5, "rank", "(I)I"⟩
abbrev cX5_isSignOf : ByteArray := prog_7_method_8_code
def yX5_isSignOf : MethodName := ⟨RX5, "isSignOf", "(I)Z"⟩
abbrev cX5_cutAll : ByteArray := prog_7_method_9_code
def yX5_cutAll : MethodName := ⟨RX5, "cutAll", "()V"⟩
abbrev cX5_wrong : ByteArray := prog_7_method_10_code
def yX5_wrong : MethodName := ⟨RX5, "wrong", "(I)V"⟩
abbrev cX5_isSign : ByteArray := prog_7_method_11_code
def yX5_isSign : MethodName := ⟨RX5, "isSign", "(I)Z"⟩
abbrev cX5_isWord : ByteArray := prog_7_method_12_code
def yX5_isWord : MethodName := ⟨RX5, "isWord", "(I)Z"⟩
abbrev cX5_takeSign : ByteArray := prog_7_method_13_code
def yX5_takeSign : MethodName := ⟨RX5, "takeSign", "(I)V"⟩
abbrev cX5_hasWord : ByteArray := prog_7_method_15_code
def yX5_hasWord : MethodName := ⟨RX5, "hasWord", "(I)Z"⟩
abbrev cX5_takeWord : ByteArray := prog_7_method_16_code
def yX5_takeWord : MethodName := ⟨RX5, "takeWord", "(I)V"⟩
abbrev cX5_takeNumber : ByteArray := prog_7_method_17_code
def yX5_takeNumber : MethodName := ⟨RX5, "takeNumber", "(II)I"⟩
abbrev cX5_grammar : ByteArray := prog_7_method_18_code
def yX5_grammar : MethodName := ⟨RX5, "grammar", "()I"⟩
abbrev cX5_readGo : ByteArray := prog_7_method_19_code
def yX5_readGo : MethodName := ⟨RX5, "readGo", "()V"⟩
abbrev cX5_takeOneOf : ByteArray := prog_7_method_20_code
def yX5_takeOneOf : MethodName := ⟨RX5, "takeOneOf", "(I)I"⟩
abbrev cX5_readEnd : ByteArray := prog_7_method_21_code
def yX5_readEnd : MethodName := ⟨RX5, "readEnd", "()V"⟩
abbrev cX5_goOf : ByteArray := prog_7_method_22_code
def yX5_goOf : MethodName := ⟨RX5, "goOf", "(II)I"⟩
abbrev cX5_endOf : ByteArray := prog_7_method_23_code
def yX5_endOf : MethodName := ⟨RX5, "endOf", "(II)I"⟩
abbrev cX5_go : ByteArray := prog_7_method_24_code
def yX5_go : MethodName := ⟨RX5, "go", "(II)I"⟩
abbrev cX5_isOne : ByteArray := prog_7_method_25_code
def yX5_isOne : MethodName := ⟨RX5, "isOne", "(I)Z"⟩
abbrev cX5_kinds : ByteArray := prog_7_method_26_code
def yX5_kinds : MethodName := ⟨RX5, "kinds", "(II)Z"⟩
abbrev cX5_name : ByteArray := prog_7_method_27_code
def yX5_name : MethodName := ⟨RX5, "name", "(IZ)Z"⟩
abbrev cX5_word : ByteArray := prog_7_method_28_code
def yX5_word : MethodName := ⟨RX5, "word", "(I)I"⟩
abbrev cX5_drop : ByteArray := prog_7_method_29_code
def yX5_drop : MethodName := ⟨RX5, "drop", "()I"⟩
abbrev cX5_hand : ByteArray := prog_7_method_30_code
def yX5_hand : MethodName := ⟨RX5, "hand", "(II)Z"⟩
abbrev cX5_stepTo : ByteArray := prog_7_method_31_code
def yX5_stepTo : MethodName := ⟨RX5, "stepTo", "(IIII)I"⟩
abbrev cX5_costOf : ByteArray := prog_7_method_32_code
def yX5_costOf : MethodName := ⟨RX5, "costOf", "(II)I"⟩
abbrev cX5_offers : ByteArray := prog_7_method_33_code
def yX5_offers : MethodName := ⟨RX5, "offers", "(II)V"⟩
abbrev cX5_laysOut : ByteArray := prog_7_method_34_code
def yX5_laysOut : MethodName := ⟨RX5, "laysOut", "()V"⟩
abbrev cX5_adds : ByteArray := prog_7_method_35_code
def yX5_adds : MethodName := ⟨RX5, "adds", "(III)V"⟩
abbrev cX5_laysOutEnds : ByteArray := prog_7_method_36_code
def yX5_laysOutEnds : MethodName := ⟨RX5, "laysOutEnds", "()V"⟩
abbrev cX5_goesFrom : ByteArray := prog_7_method_37_code
def yX5_goesFrom : MethodName := ⟨RX5, "goesFrom", "()Z"⟩
abbrev cX5_parts : ByteArray := prog_7_method_38_code
def yX5_parts : MethodName := ⟨RX5, "parts", "()Z"⟩
abbrev cX5_cost : ByteArray := prog_7_method_39_code
def yX5_cost : MethodName := ⟨RX5, "cost", "()I"⟩
abbrev cX5_second : ByteArray := prog_7_method_40_code
def yX5_second : MethodName := ⟨RX5, "second", "()I"⟩
abbrev cX5_isRaised : ByteArray := prog_7_method_41_code
def yX5_isRaised : MethodName := ⟨RX5, "isRaised", "(I)Z"⟩
abbrev cX5_look : ByteArray := prog_7_method_42_code
def yX5_look : MethodName := ⟨RX5, "look", "(II)I"⟩
abbrev cX5_last : ByteArray := prog_7_method_43_code
def yX5_last : MethodName := ⟨RX5, "last", "()I"⟩
abbrev cX5_sentences : ByteArray := prog_7_method_44_code
def yX5_sentences : MethodName := ⟨RX5, "sentences", "()I"⟩
abbrev cX5_findOut : ByteArray := prog_7_method_45_code
def yX5_findOut : MethodName := ⟨RX5, "findOut", "()V"⟩
abbrev cX5_leadsOut : ByteArray := prog_7_method_46_code
def yX5_leadsOut : MethodName := ⟨RX5, "leadsOut", "(II)Z"⟩
abbrev cX5_settled : ByteArray := prog_7_method_47_code
def yX5_settled : MethodName := ⟨RX5, "settled", "()I"⟩
abbrev cX5_keeps : ByteArray := prog_7_method_48_code
def yX5_keeps : MethodName := ⟨RX5, "keeps", "()I"⟩
abbrev cX5_alike : ByteArray := prog_7_method_49_code
def yX5_alike : MethodName := ⟨RX5, "alike", "(I)I"⟩
abbrev cX5_count : ByteArray := prog_7_method_50_code
def yX5_count : MethodName := ⟨RX5, "count", "(I)I"⟩
def RJ9 : String := "java/lang/Math"
def TJ9 : u_T := fun k => match k with
  | _ => ("", "", "", false)
def tyJ9 : Nat → FieldType := fun k => match k with
  | _ => .int
abbrev wsJ90 : List Cond := u_ws RJ9 TJ9 0
theorem nmJ9 : ∀ a, a < 0 → ∀ b, b < 0 → a ≠ b → (TJ9 a).2.1 ≠ (TJ9 b).2.1 := by decide +kernel
theorem tyJ9_ok : ∀ k, k < 0 → parseFieldDescriptor (TJ9 k).2.2.1 = some (tyJ9 k) := by decide +kernel
abbrev cJ9_min_7cf53 : ByteArray := prog_9_method_69_code
def yJ9_min_7cf53 : MethodName := ⟨RJ9, "min", "(II)I"⟩
def RJ0 : String := "java/lang/String"
def TJ0 : u_T := fun k => match k with
  | _ => ("", "", "", false)
def tyJ0 : Nat → FieldType := fun k => match k with
  | _ => .int
abbrev wsJ00 : List Cond := u_ws RJ0 TJ0 0
theorem nmJ0 : ∀ a, a < 0 → ∀ b, b < 0 → a ≠ b → (TJ0 a).2.1 ≠ (TJ0 b).2.1 := by decide +kernel
theorem tyJ0_ok : ∀ k, k < 0 → parseFieldDescriptor (TJ0 k).2.2.1 = some (tyJ0 k) := by decide +kernel
abbrev cJ0_length_8abf5 : ByteArray := prog_11_method_54_code
def yJ0_length_8abf5 : MethodName := ⟨RJ0, "length", "()I"⟩
abbrev cJ0_charAt_5068e : ByteArray := prog_11_method_56_code
def yJ0_charAt_5068e : MethodName := ⟨RJ0, "charAt", "(I)C"⟩
abbrev cJ0_coder_7d493 : ByteArray := prog_11_method_152_code
def yJ0_coder_7d493 : MethodName := ⟨RJ0, "coder", "()B"⟩
abbrev cJ0_isLatin1_aae02 : ByteArray := prog_11_method_154_code
def yJ0_isLatin1_aae02 : MethodName := ⟨RJ0, "isLatin1", "()Z"⟩
abbrev cJ0_checkIndex_df160 : ByteArray := prog_11_method_155_code
def yJ0_checkIndex_df160 : MethodName := ⟨RJ0, "checkIndex", "(II)V"⟩
def RJ1 : String := "java/lang/StringLatin1"
def TJ1 : u_T := fun k => match k with
  | _ => ("", "", "", false)
def tyJ1 : Nat → FieldType := fun k => match k with
  | _ => .int
abbrev wsJ10 : List Cond := u_ws RJ1 TJ1 0
theorem nmJ1 : ∀ a, a < 0 → ∀ b, b < 0 → a ≠ b → (TJ1 a).2.1 ≠ (TJ1 b).2.1 := by decide +kernel
theorem tyJ1_ok : ∀ k, k < 0 → parseFieldDescriptor (TJ1 k).2.2.1 = some (tyJ1 k) := by decide +kernel
abbrev cJ1_charAt_3b067 : ByteArray := prog_12_method_2_code
def yJ1_charAt_3b067 : MethodName := ⟨RJ1, "charAt", "([BI)C"⟩
def RJ2 : String := "java/lang/StringUTF16"
def TJ2 : u_T := fun k => match k with
  | _ => ("", "", "", false)
def tyJ2 : Nat → FieldType := fun k => match k with
  | _ => .int
abbrev wsJ20 : List Cond := u_ws RJ2 TJ2 0
theorem nmJ2 : ∀ a, a < 0 → ∀ b, b < 0 → a ≠ b → (TJ2 a).2.1 ≠ (TJ2 b).2.1 := by decide +kernel
theorem tyJ2_ok : ∀ k, k < 0 → parseFieldDescriptor (TJ2 k).2.2.1 = some (tyJ2 k) := by decide +kernel
abbrev cJ2_getChar_3b067 : ByteArray := prog_13_method_5_code
def yJ2_getChar_3b067 : MethodName := ⟨RJ2, "getChar", "([BI)C"⟩
abbrev cJ2_length_9d52b : ByteArray := prog_13_method_6_code
def yJ2_length_9d52b : MethodName := ⟨RJ2, "length", "([B)I"⟩
abbrev cJ2_charAt_3b067 : ByteArray := prog_13_method_83_code
def yJ2_charAt_3b067 : MethodName := ⟨RJ2, "charAt", "([BI)C"⟩
abbrev cJ2_checkIndex_2214a : ByteArray := prog_13_method_91_code
def yJ2_checkIndex_2214a : MethodName := ⟨RJ2, "checkIndex", "(I[B)V"⟩
def RJ7 : String := "java/util/Arrays"
def TJ7 : u_T := fun k => match k with
  | _ => ("", "", "", false)
def tyJ7 : Nat → FieldType := fun k => match k with
  | _ => .int
abbrev wsJ70 : List Cond := u_ws RJ7 TJ7 0
theorem nmJ7 : ∀ a, a < 0 → ∀ b, b < 0 → a ≠ b → (TJ7 a).2.1 ≠ (TJ7 b).2.1 := by decide +kernel
theorem tyJ7_ok : ∀ k, k < 0 → parseFieldDescriptor (TJ7 k).2.2.1 = some (tyJ7 k) := by decide +kernel
abbrev cJ7_fill_53178 : ByteArray := prog_15_method_103_code
def yJ7_fill_53178 : MethodName := ⟨RJ7, "fill", "([II)V"⟩
def RJ3 : String := "jdk/internal/util/Preconditions"
def TJ3 : u_T := fun k => match k with
  | _ => ("", "", "", false)
def tyJ3 : Nat → FieldType := fun k => match k with
  | _ => .int
abbrev wsJ30 : List Cond := u_ws RJ3 TJ3 0
theorem nmJ3 : ∀ a, a < 0 → ∀ b, b < 0 → a ≠ b → (TJ3 a).2.1 ≠ (TJ3 b).2.1 := by decide +kernel
theorem tyJ3_ok : ∀ k, k < 0 → parseFieldDescriptor (TJ3 k).2.2.1 = some (tyJ3 k) := by decide +kernel
abbrev cJ3_checkIndex_8e157 : ByteArray := prog_17_method_11_code
def yJ3_checkIndex_8e157 : MethodName := ⟨RJ3, "checkIndex", "(IILjava/util/function/BiFunction;)I"⟩
def RL : String := "StopSetterLaw"
abbrev cL_look : ByteArray := method_3_code
def yL_look : MethodName := ⟨RL, "look", "(LStopSetter;II[J)I"⟩
abbrev cL_law : ByteArray := code
def yL_law : MethodName := ⟨RL, "law", "([I)Z"⟩
def wsJ7_fill_53178 : List Cond := .code yJ7_fill_53178 cJ7_fill_53178 4 none :: ([])
def wsX0_init : List Cond := .code yX0_init cX0_init 1 none :: ([.methodLink RX0 5 objectInit, .instanceMethod objectInit, .code objectInit ⟨#[0xb1]⟩ 1 none, .arrayClass .int, .fieldLink RX0 11 "StopSetter$Chart" "best" "[I", .fieldLink RX0 15 "StopSetter$Chart" "next" "[I", .fieldLink RX0 18 "StopSetter$Chart" "rank" "[I", .fieldLink RX0 21 "StopSetter$Chart" "nodeAhead" "[I", .fieldLink RX0 24 "StopSetter$Chart" "endUsed" "[I", .fieldLink RX0 27 "StopSetter$Chart" "goUsed" "[I", .fieldLink RX0 30 "StopSetter$Chart" "order" "[I", .constant RX0 33 (1000000000), .fieldLink RX0 34 "StopSetter$Chart" "leastCost" "I", .fieldLink RX0 38 "StopSetter$Chart" "secondCost" "I", .methodLink RX0 41 yJ7_fill_53178, .static yJ7_fill_53178, .initialized RJ7, .code yJ7_fill_53178 cJ7_fill_53178 4 none] ++ wsX00)
def wsX0_keep : List Cond := .code yX0_keep cX0_keep 2 none :: ([.fieldLink RX0 47 "StopSetter$Chart" "ready" "I"] ++ wsX00)
def wsX0_isParted : List Cond := .code yX0_isParted cX0_isParted 1 (some .boolean) :: ([.fieldLink RX0 34 "StopSetter$Chart" "leastCost" "I", .constant RX0 33 (1000000000)] ++ wsX00)
def wsX0_isPartedTwice : List Cond := .code yX0_isPartedTwice cX0_isPartedTwice 1 (some .boolean) :: ([.fieldLink RX0 38 "StopSetter$Chart" "secondCost" "I", .constant RX0 33 (1000000000)] ++ wsX00)
def wsX0_cell : List Cond := .code yX0_cell cX0_cell 3 (some .int) :: ([])
def wsX0_isReached : List Cond := .code yX0_isReached cX0_isReached 2 (some .boolean) :: ([.fieldLink RX0 11 "StopSetter$Chart" "best" "[I", .fieldLink RX0 47 "StopSetter$Chart" "ready" "I", .constant RX0 33 (1000000000), .methodLink RX0 50 yX0_cell, .static yX0_cell, .initialized RX0, .code yX0_cell cX0_cell 3 (some .int)] ++ wsX00)
def wsX4_stateOf : List Cond := .code yX4_stateOf cX4_stateOf 1 (some .int) :: ([])
def wsX1_hasGo : List Cond := .code yX1_hasGo cX1_hasGo 2 (some .boolean) :: ([.fieldLink RX1 42 "StopSetter$Grammar" "goCount" "I"] ++ wsX10)
def wsX1_canGo : List Cond := .code yX1_canGo cX1_canGo 5 (some .boolean) :: ([.fieldLink RX1 11 "StopSetter$Grammar" "goFrom" "[I", .fieldLink RX1 15 "StopSetter$Grammar" "goKind" "[I", .fieldLink RX1 24 "StopSetter$Grammar" "goMark" "[I", .methodLink RX1 49 yX1_hasGo, .instanceMethod yX1_hasGo, .selects RX1 yX1_hasGo yX1_hasGo, .initialized RX1, .code yX1_hasGo cX1_hasGo 2 (some .boolean), .fieldLink RX1 42 "StopSetter$Grammar" "goCount" "I"] ++ wsX10)
def wsX4_quotesOf : List Cond := .code yX4_quotesOf cX4_quotesOf 1 (some .int) :: ([])
def wsX4_nodeOf : List Cond := .code yX4_nodeOf cX4_nodeOf 2 (some .int) :: ([])
def wsX1_nodeBehind : List Cond := .code yX1_nodeBehind cX1_nodeBehind 3 (some .int) :: ([.fieldLink RX1 24 "StopSetter$Grammar" "goMark" "[I", .fieldLink RX1 18 "StopSetter$Grammar" "goTo" "[I", .methodLink RX1 49 yX1_hasGo, .instanceMethod yX1_hasGo, .selects RX1 yX1_hasGo yX1_hasGo, .initialized RX1, .code yX1_hasGo cX1_hasGo 2 (some .boolean), .fieldLink RX1 42 "StopSetter$Grammar" "goCount" "I", .static yX4_nodeOf, .initialized RX4, .code yX4_nodeOf cX4_nodeOf 2 (some .int)] ++ wsX10)
def wsX1_hasEnd : List Cond := .code yX1_hasEnd cX1_hasEnd 2 (some .boolean) :: ([.fieldLink RX1 46 "StopSetter$Grammar" "endCount" "I"] ++ wsX10)
def wsX1_costOfEnd : List Cond := .code yX1_costOfEnd cX1_costOfEnd 2 (some .int) :: ([.fieldLink RX1 30 "StopSetter$Grammar" "endCost" "[I", .methodLink RX1 53 yX1_hasEnd, .instanceMethod yX1_hasEnd, .selects RX1 yX1_hasEnd yX1_hasEnd, .initialized RX1, .code yX1_hasEnd cX1_hasEnd 2 (some .boolean), .fieldLink RX1 46 "StopSetter$Grammar" "endCount" "I"] ++ wsX10)
def wsX0_offer : List Cond := .code yX0_offer cX0_offer 10 none :: ([.fieldLink RX0 47 "StopSetter$Chart" "ready" "I", .fieldLink RX0 11 "StopSetter$Chart" "best" "[I", .fieldLink RX0 18 "StopSetter$Chart" "rank" "[I", .fieldLink RX0 30 "StopSetter$Chart" "order" "[I", .fieldLink RX0 15 "StopSetter$Chart" "next" "[I", .fieldLink RX0 21 "StopSetter$Chart" "nodeAhead" "[I", .fieldLink RX0 24 "StopSetter$Chart" "endUsed" "[I", .fieldLink RX0 27 "StopSetter$Chart" "goUsed" "[I", .methodLink RX0 105 Lib.Math.min.name, .static Lib.Math.min.name, .initialized "java/lang/Math", .code Lib.Math.min.name Lib.Math.min.code 2 (some .int), .constant RX0 33 (1000000000), .methodLink RX0 50 yX0_cell, .static yX0_cell, .initialized RX0, .code yX0_cell cX0_cell 3 (some .int)] ++ wsX00)
def wsX0_goFrom_r1 : List Cond := [Cond.static yX4_stateOf, Cond.initialized RX4, Cond.code yX4_stateOf cX4_stateOf 1 (some .int), Cond.methodLink RX0 88 yX1_canGo, Cond.instanceMethod yX1_canGo, Cond.selects RX1 yX1_canGo yX1_canGo, Cond.initialized RX1, Cond.code yX1_canGo cX1_canGo 5 (some .boolean), Cond.fieldLink RX1 11 "StopSetter$Grammar" "goFrom" "[I", Cond.fieldLink RX1 15 "StopSetter$Grammar" "goKind" "[I", Cond.fieldLink RX1 24 "StopSetter$Grammar" "goMark" "[I", Cond.methodLink RX1 49 yX1_hasGo, Cond.instanceMethod yX1_hasGo, Cond.selects RX1 yX1_hasGo yX1_hasGo, Cond.code yX1_hasGo cX1_hasGo 2 (some .boolean), Cond.fieldLink RX1 42 "StopSetter$Grammar" "goCount" "I", Cond.static yX4_quotesOf, Cond.code yX4_quotesOf cX4_quotesOf 1 (some .int), Cond.methodLink RX0 92 yX1_nodeBehind, Cond.instanceMethod yX1_nodeBehind, Cond.selects RX1 yX1_nodeBehind yX1_nodeBehind, Cond.code yX1_nodeBehind cX1_nodeBehind 3 (some .int), Cond.fieldLink RX1 18 "StopSetter$Grammar" "goTo" "[I", Cond.static yX4_nodeOf]
def wsX0_goFrom_r2 : List Cond := [Cond.code yX4_nodeOf cX4_nodeOf 2 (some .int), Cond.methodLink RX0 95 yX1_costOfEnd, Cond.instanceMethod yX1_costOfEnd, Cond.selects RX1 yX1_costOfEnd yX1_costOfEnd, Cond.code yX1_costOfEnd cX1_costOfEnd 2 (some .int), Cond.fieldLink RX1 30 "StopSetter$Grammar" "endCost" "[I", Cond.methodLink RX1 53 yX1_hasEnd, Cond.instanceMethod yX1_hasEnd, Cond.selects RX1 yX1_hasEnd yX1_hasEnd, Cond.code yX1_hasEnd cX1_hasEnd 2 (some .boolean), Cond.fieldLink RX1 46 "StopSetter$Grammar" "endCount" "I", Cond.methodLink RX0 101 yX0_offer, Cond.instanceMethod yX0_offer, Cond.selects RX0 yX0_offer yX0_offer, Cond.initialized RX0, Cond.code yX0_offer cX0_offer 10 none, Cond.fieldLink RX0 47 "StopSetter$Chart" "ready" "I", Cond.fieldLink RX0 11 "StopSetter$Chart" "best" "[I", Cond.fieldLink RX0 18 "StopSetter$Chart" "rank" "[I", Cond.fieldLink RX0 30 "StopSetter$Chart" "order" "[I", Cond.fieldLink RX0 15 "StopSetter$Chart" "next" "[I", Cond.fieldLink RX0 21 "StopSetter$Chart" "nodeAhead" "[I", Cond.fieldLink RX0 24 "StopSetter$Chart" "endUsed" "[I", Cond.fieldLink RX0 27 "StopSetter$Chart" "goUsed" "[I"]
def wsX0_goFrom_r3 : List Cond := [Cond.methodLink RX0 105 Lib.Math.min.name, Cond.static Lib.Math.min.name, Cond.initialized "java/lang/Math", Cond.code Lib.Math.min.name Lib.Math.min.code 2 (some .int), Cond.constant RX0 33 (1000000000), Cond.methodLink RX0 50 yX0_cell, Cond.static yX0_cell, Cond.code yX0_cell cX0_cell 3 (some .int)]
def wsX0_goFrom : List Cond := .code yX0_goFrom cX0_goFrom 10 none :: ((wsX0_goFrom_r1 ++ (wsX0_goFrom_r2 ++ wsX0_goFrom_r3)) ++ wsX10 ++ wsX00)
def wsX1_canEnd : List Cond := .code yX1_canEnd cX1_canEnd 4 (some .boolean) :: ([.fieldLink RX1 27 "StopSetter$Grammar" "endFrom" "[I", .fieldLink RX1 33 "StopSetter$Grammar" "endMark" "[I", .methodLink RX1 53 yX1_hasEnd, .instanceMethod yX1_hasEnd, .selects RX1 yX1_hasEnd yX1_hasEnd, .initialized RX1, .code yX1_hasEnd cX1_hasEnd 2 (some .boolean), .fieldLink RX1 46 "StopSetter$Grammar" "endCount" "I"] ++ wsX10)
def wsX0_stepFrom_r1 : List Cond := [Cond.fieldLink RX0 47 "StopSetter$Chart" "ready" "I", Cond.methodLink RX0 65 yX0_goFrom, Cond.instanceMethod yX0_goFrom, Cond.selects RX0 yX0_goFrom yX0_goFrom, Cond.initialized RX0, Cond.code yX0_goFrom cX0_goFrom 10 none, Cond.static yX4_stateOf, Cond.initialized RX4, Cond.code yX4_stateOf cX4_stateOf 1 (some .int), Cond.methodLink RX0 88 yX1_canGo, Cond.instanceMethod yX1_canGo, Cond.selects RX1 yX1_canGo yX1_canGo, Cond.initialized RX1, Cond.code yX1_canGo cX1_canGo 5 (some .boolean), Cond.fieldLink RX1 11 "StopSetter$Grammar" "goFrom" "[I", Cond.fieldLink RX1 15 "StopSetter$Grammar" "goKind" "[I", Cond.fieldLink RX1 24 "StopSetter$Grammar" "goMark" "[I", Cond.methodLink RX1 49 yX1_hasGo, Cond.instanceMethod yX1_hasGo, Cond.selects RX1 yX1_hasGo yX1_hasGo, Cond.code yX1_hasGo cX1_hasGo 2 (some .boolean), Cond.fieldLink RX1 42 "StopSetter$Grammar" "goCount" "I", Cond.static yX4_quotesOf, Cond.code yX4_quotesOf cX4_quotesOf 1 (some .int)]
def wsX0_stepFrom_r2 : List Cond := [Cond.methodLink RX0 92 yX1_nodeBehind, Cond.instanceMethod yX1_nodeBehind, Cond.selects RX1 yX1_nodeBehind yX1_nodeBehind, Cond.code yX1_nodeBehind cX1_nodeBehind 3 (some .int), Cond.fieldLink RX1 18 "StopSetter$Grammar" "goTo" "[I", Cond.static yX4_nodeOf, Cond.code yX4_nodeOf cX4_nodeOf 2 (some .int), Cond.methodLink RX0 95 yX1_costOfEnd, Cond.instanceMethod yX1_costOfEnd, Cond.selects RX1 yX1_costOfEnd yX1_costOfEnd, Cond.code yX1_costOfEnd cX1_costOfEnd 2 (some .int), Cond.fieldLink RX1 30 "StopSetter$Grammar" "endCost" "[I", Cond.methodLink RX1 53 yX1_hasEnd, Cond.instanceMethod yX1_hasEnd, Cond.selects RX1 yX1_hasEnd yX1_hasEnd, Cond.code yX1_hasEnd cX1_hasEnd 2 (some .boolean), Cond.fieldLink RX1 46 "StopSetter$Grammar" "endCount" "I", Cond.methodLink RX0 101 yX0_offer, Cond.instanceMethod yX0_offer, Cond.selects RX0 yX0_offer yX0_offer, Cond.code yX0_offer cX0_offer 10 none, Cond.fieldLink RX0 11 "StopSetter$Chart" "best" "[I", Cond.fieldLink RX0 18 "StopSetter$Chart" "rank" "[I", Cond.fieldLink RX0 30 "StopSetter$Chart" "order" "[I"]
def wsX0_stepFrom_r3 : List Cond := [Cond.fieldLink RX0 15 "StopSetter$Chart" "next" "[I", Cond.fieldLink RX0 21 "StopSetter$Chart" "nodeAhead" "[I", Cond.fieldLink RX0 24 "StopSetter$Chart" "endUsed" "[I", Cond.fieldLink RX0 27 "StopSetter$Chart" "goUsed" "[I", Cond.methodLink RX0 105 Lib.Math.min.name, Cond.static Lib.Math.min.name, Cond.initialized "java/lang/Math", Cond.code Lib.Math.min.name Lib.Math.min.code 2 (some .int), Cond.constant RX0 33 (1000000000), Cond.methodLink RX0 50 yX0_cell, Cond.static yX0_cell, Cond.code yX0_cell cX0_cell 3 (some .int), Cond.methodLink RX0 81 yX1_canEnd, Cond.instanceMethod yX1_canEnd, Cond.selects RX1 yX1_canEnd yX1_canEnd, Cond.code yX1_canEnd cX1_canEnd 4 (some .boolean), Cond.fieldLink RX1 27 "StopSetter$Grammar" "endFrom" "[I", Cond.fieldLink RX1 33 "StopSetter$Grammar" "endMark" "[I"]
def wsX0_stepFrom : List Cond := .code yX0_stepFrom cX0_stepFrom 7 none :: ((wsX0_stepFrom_r1 ++ (wsX0_stepFrom_r2 ++ wsX0_stepFrom_r3)) ++ wsX00 ++ wsX10)
def wsX0_waysAheadOf : List Cond := .code yX0_waysAheadOf cX0_waysAheadOf 4 (some .int) :: ([.fieldLink RX0 30 "StopSetter$Chart" "order" "[I", .methodLink RX0 54 yX0_isReached, .instanceMethod yX0_isReached, .selects RX0 yX0_isReached yX0_isReached, .initialized RX0, .code yX0_isReached cX0_isReached 2 (some .boolean), .fieldLink RX0 11 "StopSetter$Chart" "best" "[I", .fieldLink RX0 47 "StopSetter$Chart" "ready" "I", .constant RX0 33 (1000000000), .methodLink RX0 50 yX0_cell, .static yX0_cell, .code yX0_cell cX0_cell 3 (some .int)] ++ wsX00)
def wsX0_rankLevel : List Cond := .code yX0_rankLevel cX0_rankLevel 2 none :: ([.fieldLink RX0 18 "StopSetter$Chart" "rank" "[I", .fieldLink RX0 47 "StopSetter$Chart" "ready" "I", .methodLink RX0 54 yX0_isReached, .instanceMethod yX0_isReached, .selects RX0 yX0_isReached yX0_isReached, .initialized RX0, .code yX0_isReached cX0_isReached 2 (some .boolean), .fieldLink RX0 11 "StopSetter$Chart" "best" "[I", .constant RX0 33 (1000000000), .methodLink RX0 50 yX0_cell, .static yX0_cell, .code yX0_cell cX0_cell 3 (some .int), .methodLink RX0 110 yX0_waysAheadOf, .instanceMethod yX0_waysAheadOf, .selects RX0 yX0_waysAheadOf yX0_waysAheadOf, .code yX0_waysAheadOf cX0_waysAheadOf 4 (some .int), .fieldLink RX0 30 "StopSetter$Chart" "order" "[I"] ++ wsX00)
def wsX0_extend_r1 : List Cond := [Cond.fieldLink RX0 47 "StopSetter$Chart" "ready" "I", Cond.fieldLink RX0 11 "StopSetter$Chart" "best" "[I", Cond.constant RX0 33 (1000000000), Cond.fieldLink RX0 15 "StopSetter$Chart" "next" "[I", Cond.methodLink RX0 50 yX0_cell, Cond.static yX0_cell, Cond.initialized RX0, Cond.code yX0_cell cX0_cell 3 (some .int), Cond.methodLink RX0 54 yX0_isReached, Cond.instanceMethod yX0_isReached, Cond.selects RX0 yX0_isReached yX0_isReached, Cond.code yX0_isReached cX0_isReached 2 (some .boolean), Cond.methodLink RX0 58 yX0_stepFrom, Cond.instanceMethod yX0_stepFrom, Cond.selects RX0 yX0_stepFrom yX0_stepFrom, Cond.code yX0_stepFrom cX0_stepFrom 7 none, Cond.methodLink RX0 65 yX0_goFrom, Cond.instanceMethod yX0_goFrom, Cond.selects RX0 yX0_goFrom yX0_goFrom, Cond.code yX0_goFrom cX0_goFrom 10 none, Cond.static yX4_stateOf, Cond.initialized RX4, Cond.code yX4_stateOf cX4_stateOf 1 (some .int), Cond.methodLink RX0 88 yX1_canGo]
def wsX0_extend_r2 : List Cond := [Cond.instanceMethod yX1_canGo, Cond.selects RX1 yX1_canGo yX1_canGo, Cond.initialized RX1, Cond.code yX1_canGo cX1_canGo 5 (some .boolean), Cond.fieldLink RX1 11 "StopSetter$Grammar" "goFrom" "[I", Cond.fieldLink RX1 15 "StopSetter$Grammar" "goKind" "[I", Cond.fieldLink RX1 24 "StopSetter$Grammar" "goMark" "[I", Cond.methodLink RX1 49 yX1_hasGo, Cond.instanceMethod yX1_hasGo, Cond.selects RX1 yX1_hasGo yX1_hasGo, Cond.code yX1_hasGo cX1_hasGo 2 (some .boolean), Cond.fieldLink RX1 42 "StopSetter$Grammar" "goCount" "I", Cond.static yX4_quotesOf, Cond.code yX4_quotesOf cX4_quotesOf 1 (some .int), Cond.methodLink RX0 92 yX1_nodeBehind, Cond.instanceMethod yX1_nodeBehind, Cond.selects RX1 yX1_nodeBehind yX1_nodeBehind, Cond.code yX1_nodeBehind cX1_nodeBehind 3 (some .int), Cond.fieldLink RX1 18 "StopSetter$Grammar" "goTo" "[I", Cond.static yX4_nodeOf, Cond.code yX4_nodeOf cX4_nodeOf 2 (some .int), Cond.methodLink RX0 95 yX1_costOfEnd, Cond.instanceMethod yX1_costOfEnd, Cond.selects RX1 yX1_costOfEnd yX1_costOfEnd]
def wsX0_extend_r3 : List Cond := [Cond.code yX1_costOfEnd cX1_costOfEnd 2 (some .int), Cond.fieldLink RX1 30 "StopSetter$Grammar" "endCost" "[I", Cond.methodLink RX1 53 yX1_hasEnd, Cond.instanceMethod yX1_hasEnd, Cond.selects RX1 yX1_hasEnd yX1_hasEnd, Cond.code yX1_hasEnd cX1_hasEnd 2 (some .boolean), Cond.fieldLink RX1 46 "StopSetter$Grammar" "endCount" "I", Cond.methodLink RX0 101 yX0_offer, Cond.instanceMethod yX0_offer, Cond.selects RX0 yX0_offer yX0_offer, Cond.code yX0_offer cX0_offer 10 none, Cond.fieldLink RX0 18 "StopSetter$Chart" "rank" "[I", Cond.fieldLink RX0 30 "StopSetter$Chart" "order" "[I", Cond.fieldLink RX0 21 "StopSetter$Chart" "nodeAhead" "[I", Cond.fieldLink RX0 24 "StopSetter$Chart" "endUsed" "[I", Cond.fieldLink RX0 27 "StopSetter$Chart" "goUsed" "[I", Cond.methodLink RX0 105 Lib.Math.min.name, Cond.static Lib.Math.min.name, Cond.initialized "java/lang/Math", Cond.code Lib.Math.min.name Lib.Math.min.code 2 (some .int), Cond.methodLink RX0 81 yX1_canEnd, Cond.instanceMethod yX1_canEnd, Cond.selects RX1 yX1_canEnd yX1_canEnd, Cond.code yX1_canEnd cX1_canEnd 4 (some .boolean)]
def wsX0_extend_r4 : List Cond := [Cond.fieldLink RX1 27 "StopSetter$Grammar" "endFrom" "[I", Cond.fieldLink RX1 33 "StopSetter$Grammar" "endMark" "[I", Cond.methodLink RX0 62 yX0_rankLevel, Cond.instanceMethod yX0_rankLevel, Cond.selects RX0 yX0_rankLevel yX0_rankLevel, Cond.code yX0_rankLevel cX0_rankLevel 2 none, Cond.methodLink RX0 110 yX0_waysAheadOf, Cond.instanceMethod yX0_waysAheadOf, Cond.selects RX0 yX0_waysAheadOf yX0_waysAheadOf, Cond.code yX0_waysAheadOf cX0_waysAheadOf 4 (some .int)]
def wsX0_extend : List Cond := .code yX0_extend cX0_extend 5 none :: ((wsX0_extend_r1 ++ (wsX0_extend_r2 ++ (wsX0_extend_r3 ++ wsX0_extend_r4))) ++ wsX00 ++ wsX10)
def wsX0_offerLast : List Cond := .code yX0_offerLast cX0_offerLast 7 none :: ([.fieldLink RX0 47 "StopSetter$Chart" "ready" "I", .fieldLink RX0 11 "StopSetter$Chart" "best" "[I", .fieldLink RX0 34 "StopSetter$Chart" "leastCost" "I", .fieldLink RX0 18 "StopSetter$Chart" "rank" "[I", .fieldLink RX0 113 "StopSetter$Chart" "lastNode" "I", .fieldLink RX0 38 "StopSetter$Chart" "secondCost" "I", .fieldLink RX0 116 "StopSetter$Chart" "lastEnd" "I", .methodLink RX0 105 Lib.Math.min.name, .static Lib.Math.min.name, .initialized "java/lang/Math", .code Lib.Math.min.name Lib.Math.min.code 2 (some .int), .fieldLink RX0 15 "StopSetter$Chart" "next" "[I", .constant RX0 33 (1000000000), .methodLink RX0 50 yX0_cell, .static yX0_cell, .initialized RX0, .code yX0_cell cX0_cell 3 (some .int)] ++ wsX00)
def wsX0_finish_r1 : List Cond := [Cond.constant RX0 33 (1000000000), Cond.fieldLink RX0 34 "StopSetter$Chart" "leastCost" "I", Cond.fieldLink RX0 38 "StopSetter$Chart" "secondCost" "I", Cond.fieldLink RX0 113 "StopSetter$Chart" "lastNode" "I", Cond.fieldLink RX0 116 "StopSetter$Chart" "lastEnd" "I", Cond.fieldLink RX0 47 "StopSetter$Chart" "ready" "I", Cond.static yX4_nodeOf, Cond.initialized RX4, Cond.code yX4_nodeOf cX4_nodeOf 2 (some .int), Cond.methodLink RX0 54 yX0_isReached, Cond.instanceMethod yX0_isReached, Cond.selects RX0 yX0_isReached yX0_isReached, Cond.initialized RX0, Cond.code yX0_isReached cX0_isReached 2 (some .boolean), Cond.fieldLink RX0 11 "StopSetter$Chart" "best" "[I", Cond.methodLink RX0 50 yX0_cell, Cond.static yX0_cell, Cond.code yX0_cell cX0_cell 3 (some .int), Cond.methodLink RX0 81 yX1_canEnd, Cond.instanceMethod yX1_canEnd, Cond.selects RX1 yX1_canEnd yX1_canEnd, Cond.initialized RX1, Cond.code yX1_canEnd cX1_canEnd 4 (some .boolean), Cond.fieldLink RX1 27 "StopSetter$Grammar" "endFrom" "[I"]
def wsX0_finish_r2 : List Cond := [Cond.fieldLink RX1 33 "StopSetter$Grammar" "endMark" "[I", Cond.methodLink RX1 53 yX1_hasEnd, Cond.instanceMethod yX1_hasEnd, Cond.selects RX1 yX1_hasEnd yX1_hasEnd, Cond.code yX1_hasEnd cX1_hasEnd 2 (some .boolean), Cond.fieldLink RX1 46 "StopSetter$Grammar" "endCount" "I", Cond.methodLink RX0 95 yX1_costOfEnd, Cond.instanceMethod yX1_costOfEnd, Cond.selects RX1 yX1_costOfEnd yX1_costOfEnd, Cond.code yX1_costOfEnd cX1_costOfEnd 2 (some .int), Cond.fieldLink RX1 30 "StopSetter$Grammar" "endCost" "[I", Cond.methodLink RX0 122 yX0_offerLast, Cond.instanceMethod yX0_offerLast, Cond.selects RX0 yX0_offerLast yX0_offerLast, Cond.code yX0_offerLast cX0_offerLast 7 none, Cond.fieldLink RX0 18 "StopSetter$Chart" "rank" "[I", Cond.methodLink RX0 105 Lib.Math.min.name, Cond.static Lib.Math.min.name, Cond.initialized "java/lang/Math", Cond.code Lib.Math.min.name Lib.Math.min.code 2 (some .int), Cond.fieldLink RX0 15 "StopSetter$Chart" "next" "[I"]
def wsX0_finish : List Cond := .code yX0_finish cX0_finish 5 none :: ((wsX0_finish_r1 ++ wsX0_finish_r2) ++ wsX00 ++ wsX10)
def wsX0_endInto : List Cond := .code yX0_endInto cX0_endInto 3 (some .int) :: ([.fieldLink RX0 24 "StopSetter$Chart" "endUsed" "[I", .methodLink RX0 50 yX0_cell, .static yX0_cell, .initialized RX0, .code yX0_cell cX0_cell 3 (some .int)] ++ wsX00)
def wsX0_goInto : List Cond := .code yX0_goInto cX0_goInto 3 (some .int) :: ([.fieldLink RX0 27 "StopSetter$Chart" "goUsed" "[I", .methodLink RX0 50 yX0_cell, .static yX0_cell, .initialized RX0, .code yX0_cell cX0_cell 3 (some .int)] ++ wsX00)
def wsX0_nodeBehind : List Cond := .code yX0_nodeBehind cX0_nodeBehind 4 (some .int) :: ([.fieldLink RX0 113 "StopSetter$Chart" "lastNode" "I", .fieldLink RX0 47 "StopSetter$Chart" "ready" "I", .fieldLink RX0 21 "StopSetter$Chart" "nodeAhead" "[I", .methodLink RX0 50 yX0_cell, .static yX0_cell, .initialized RX0, .code yX0_cell cX0_cell 3 (some .int)] ++ wsX00)
def wsX0_endsInside : List Cond := .code yX0_endsInside cX0_endsInside 4 (some .int) :: ([.fieldLink RX0 113 "StopSetter$Chart" "lastNode" "I", .fieldLink RX0 47 "StopSetter$Chart" "ready" "I", .fieldLink RX0 21 "StopSetter$Chart" "nodeAhead" "[I", .methodLink RX0 126 yX0_endInto, .instanceMethod yX0_endInto, .selects RX0 yX0_endInto yX0_endInto, .initialized RX0, .code yX0_endInto cX0_endInto 3 (some .int), .fieldLink RX0 24 "StopSetter$Chart" "endUsed" "[I", .methodLink RX0 50 yX0_cell, .static yX0_cell, .code yX0_cell cX0_cell 3 (some .int)] ++ wsX00)
def wsX1_isHopeful : List Cond := .code yX1_isHopeful cX1_isHopeful 2 (some .boolean) :: ([.fieldLink RX1 38 "StopSetter$Grammar" "hopeful" "[Z"] ++ wsX10)
def wsX0_meetingLevel : List Cond := .code yX0_meetingLevel cX0_meetingLevel 6 (some .int) :: ([.fieldLink RX0 47 "StopSetter$Chart" "ready" "I", .fieldLink RX0 21 "StopSetter$Chart" "nodeAhead" "[I", .methodLink RX0 50 yX0_cell, .static yX0_cell, .initialized RX0, .code yX0_cell cX0_cell 3 (some .int)] ++ wsX00)
def wsX0_sharedSteps_r1 : List Cond := [Cond.fieldLink RX0 47 "StopSetter$Chart" "ready" "I", Cond.methodLink RX0 105 Lib.Math.min.name, Cond.static Lib.Math.min.name, Cond.initialized "java/lang/Math", Cond.code Lib.Math.min.name Lib.Math.min.code 2 (some .int), Cond.methodLink RX0 54 yX0_isReached, Cond.instanceMethod yX0_isReached, Cond.selects RX0 yX0_isReached yX0_isReached, Cond.initialized RX0, Cond.code yX0_isReached cX0_isReached 2 (some .boolean), Cond.fieldLink RX0 11 "StopSetter$Chart" "best" "[I", Cond.constant RX0 33 (1000000000), Cond.methodLink RX0 50 yX0_cell, Cond.static yX0_cell, Cond.code yX0_cell cX0_cell 3 (some .int), Cond.methodLink RX0 129 yX1_isHopeful, Cond.instanceMethod yX1_isHopeful, Cond.selects RX1 yX1_isHopeful yX1_isHopeful, Cond.initialized RX1, Cond.code yX1_isHopeful cX1_isHopeful 2 (some .boolean), Cond.fieldLink RX1 38 "StopSetter$Grammar" "hopeful" "[Z", Cond.methodLink RX0 132 yX0_meetingLevel, Cond.instanceMethod yX0_meetingLevel, Cond.selects RX0 yX0_meetingLevel yX0_meetingLevel]
def wsX0_sharedSteps_r2 : List Cond := [Cond.code yX0_meetingLevel cX0_meetingLevel 6 (some .int), Cond.fieldLink RX0 21 "StopSetter$Chart" "nodeAhead" "[I"]
def wsX0_sharedSteps : List Cond := .code yX0_sharedSteps cX0_sharedSteps 5 (some .int) :: ((wsX0_sharedSteps_r1 ++ wsX0_sharedSteps_r2) ++ wsX00 ++ wsX10)
def wsX1_init : List Cond := .code yX1_init cX1_init 1 none :: ([.methodLink RX1 3 objectInit, .instanceMethod objectInit, .code objectInit ⟨#[0xb1]⟩ 1 none, .arrayClass .int, .fieldLink RX1 11 "StopSetter$Grammar" "goFrom" "[I", .fieldLink RX1 15 "StopSetter$Grammar" "goKind" "[I", .fieldLink RX1 18 "StopSetter$Grammar" "goTo" "[I", .fieldLink RX1 21 "StopSetter$Grammar" "goCost" "[I", .fieldLink RX1 24 "StopSetter$Grammar" "goMark" "[I", .fieldLink RX1 27 "StopSetter$Grammar" "endFrom" "[I", .fieldLink RX1 30 "StopSetter$Grammar" "endCost" "[I", .fieldLink RX1 33 "StopSetter$Grammar" "endMark" "[I", .arrayClass .boolean, .fieldLink RX1 38 "StopSetter$Grammar" "hopeful" "[Z"] ++ wsX10)
def wsX1_empty : List Cond := .code yX1_empty cX1_empty 1 none :: ([.fieldLink RX1 42 "StopSetter$Grammar" "goCount" "I", .fieldLink RX1 46 "StopSetter$Grammar" "endCount" "I"] ++ wsX10)
def wsX1_addGo : List Cond := .code yX1_addGo cX1_addGo 6 none :: ([.fieldLink RX1 42 "StopSetter$Grammar" "goCount" "I", .fieldLink RX1 11 "StopSetter$Grammar" "goFrom" "[I", .fieldLink RX1 15 "StopSetter$Grammar" "goKind" "[I", .fieldLink RX1 18 "StopSetter$Grammar" "goTo" "[I", .fieldLink RX1 21 "StopSetter$Grammar" "goCost" "[I", .fieldLink RX1 24 "StopSetter$Grammar" "goMark" "[I"] ++ wsX10)
def wsX1_addEnd : List Cond := .code yX1_addEnd cX1_addEnd 4 none :: ([.fieldLink RX1 46 "StopSetter$Grammar" "endCount" "I", .fieldLink RX1 27 "StopSetter$Grammar" "endFrom" "[I", .fieldLink RX1 30 "StopSetter$Grammar" "endCost" "[I", .fieldLink RX1 33 "StopSetter$Grammar" "endMark" "[I"] ++ wsX10)
def wsX1_markOfGo : List Cond := .code yX1_markOfGo cX1_markOfGo 2 (some .int) :: ([.fieldLink RX1 24 "StopSetter$Grammar" "goMark" "[I", .methodLink RX1 49 yX1_hasGo, .instanceMethod yX1_hasGo, .selects RX1 yX1_hasGo yX1_hasGo, .initialized RX1, .code yX1_hasGo cX1_hasGo 2 (some .boolean), .fieldLink RX1 42 "StopSetter$Grammar" "goCount" "I"] ++ wsX10)
def wsX1_markOfEnd : List Cond := .code yX1_markOfEnd cX1_markOfEnd 2 (some .int) :: ([.fieldLink RX1 33 "StopSetter$Grammar" "endMark" "[I", .methodLink RX1 53 yX1_hasEnd, .instanceMethod yX1_hasEnd, .selects RX1 yX1_hasEnd yX1_hasEnd, .initialized RX1, .code yX1_hasEnd cX1_hasEnd 2 (some .boolean), .fieldLink RX1 46 "StopSetter$Grammar" "endCount" "I"] ++ wsX10)
def wsX1_setHopeful : List Cond := .code yX1_setHopeful cX1_setHopeful 2 none :: ([.fieldLink RX1 38 "StopSetter$Grammar" "hopeful" "[Z"] ++ wsX10)
def wsX1_passHopeBack_r1 : List Cond := [Cond.fieldLink RX1 11 "StopSetter$Grammar" "goFrom" "[I", Cond.methodLink RX1 49 yX1_hasGo, Cond.instanceMethod yX1_hasGo, Cond.selects RX1 yX1_hasGo yX1_hasGo, Cond.initialized RX1, Cond.code yX1_hasGo cX1_hasGo 2 (some .boolean), Cond.fieldLink RX1 42 "StopSetter$Grammar" "goCount" "I", Cond.methodLink RX1 68 yX1_nodeBehind, Cond.instanceMethod yX1_nodeBehind, Cond.selects RX1 yX1_nodeBehind yX1_nodeBehind, Cond.code yX1_nodeBehind cX1_nodeBehind 3 (some .int), Cond.fieldLink RX1 24 "StopSetter$Grammar" "goMark" "[I", Cond.fieldLink RX1 18 "StopSetter$Grammar" "goTo" "[I", Cond.static yX4_nodeOf, Cond.initialized RX4, Cond.code yX4_nodeOf cX4_nodeOf 2 (some .int), Cond.methodLink RX1 71 yX1_isHopeful, Cond.instanceMethod yX1_isHopeful, Cond.selects RX1 yX1_isHopeful yX1_isHopeful, Cond.code yX1_isHopeful cX1_isHopeful 2 (some .boolean), Cond.fieldLink RX1 38 "StopSetter$Grammar" "hopeful" "[Z", Cond.methodLink RX1 60 yX1_setHopeful, Cond.instanceMethod yX1_setHopeful, Cond.selects RX1 yX1_setHopeful yX1_setHopeful]
def wsX1_passHopeBack_r2 : List Cond := [Cond.code yX1_setHopeful cX1_setHopeful 2 none]
def wsX1_passHopeBack : List Cond := .code yX1_passHopeBack cX1_passHopeBack 3 none :: ((wsX1_passHopeBack_r1 ++ wsX1_passHopeBack_r2) ++ wsX10)
def wsX1_findHopeful_r1 : List Cond := [Cond.fieldLink RX1 38 "StopSetter$Grammar" "hopeful" "[Z", Cond.fieldLink RX1 46 "StopSetter$Grammar" "endCount" "I", Cond.fieldLink RX1 27 "StopSetter$Grammar" "endFrom" "[I", Cond.fieldLink RX1 42 "StopSetter$Grammar" "goCount" "I", Cond.methodLink RX1 53 yX1_hasEnd, Cond.instanceMethod yX1_hasEnd, Cond.selects RX1 yX1_hasEnd yX1_hasEnd, Cond.initialized RX1, Cond.code yX1_hasEnd cX1_hasEnd 2 (some .boolean), Cond.static yX4_nodeOf, Cond.initialized RX4, Cond.code yX4_nodeOf cX4_nodeOf 2 (some .int), Cond.methodLink RX1 60 yX1_setHopeful, Cond.instanceMethod yX1_setHopeful, Cond.selects RX1 yX1_setHopeful yX1_setHopeful, Cond.code yX1_setHopeful cX1_setHopeful 2 none, Cond.methodLink RX1 64 yX1_passHopeBack, Cond.instanceMethod yX1_passHopeBack, Cond.selects RX1 yX1_passHopeBack yX1_passHopeBack, Cond.code yX1_passHopeBack cX1_passHopeBack 3 none, Cond.fieldLink RX1 11 "StopSetter$Grammar" "goFrom" "[I", Cond.methodLink RX1 49 yX1_hasGo, Cond.instanceMethod yX1_hasGo, Cond.selects RX1 yX1_hasGo yX1_hasGo]
def wsX1_findHopeful_r2 : List Cond := [Cond.code yX1_hasGo cX1_hasGo 2 (some .boolean), Cond.methodLink RX1 68 yX1_nodeBehind, Cond.instanceMethod yX1_nodeBehind, Cond.selects RX1 yX1_nodeBehind yX1_nodeBehind, Cond.code yX1_nodeBehind cX1_nodeBehind 3 (some .int), Cond.fieldLink RX1 24 "StopSetter$Grammar" "goMark" "[I", Cond.fieldLink RX1 18 "StopSetter$Grammar" "goTo" "[I", Cond.methodLink RX1 71 yX1_isHopeful, Cond.instanceMethod yX1_isHopeful, Cond.selects RX1 yX1_isHopeful yX1_isHopeful, Cond.code yX1_isHopeful cX1_isHopeful 2 (some .boolean)]
def wsX1_findHopeful : List Cond := .code yX1_findHopeful cX1_findHopeful 3 none :: ((wsX1_findHopeful_r1 ++ wsX1_findHopeful_r2) ++ wsX10)
def wsX2_init : List Cond := .code yX2_init cX2_init 2 none :: ([.methodLink RX2 3 objectInit, .instanceMethod objectInit, .code objectInit ⟨#[0xb1]⟩ 1 none, .fieldLink RX2 9 "StopSetter$Reader" "tape" "LStopSetter$Tape;"] ++ wsX20)
def wsX3_signAt : List Cond := .code yX3_signAt cX3_signAt 2 (some .int) :: ([.fieldLink RX3 17 "StopSetter$Tape" "length" "I", .fieldLink RX3 9 "StopSetter$Tape" "signs" "[C"] ++ wsX30)
def wsX2_sortOf : List Cond := .code yX2_sortOf cX2_sortOf 1 (some .int) :: ([])
def wsX2_runEnd : List Cond := .code yX2_runEnd cX2_runEnd 4 (some .int) :: ([.fieldLink RX2 9 "StopSetter$Reader" "tape" "LStopSetter$Tape;", .methodLink RX2 113 yX3_signAt, .instanceMethod yX3_signAt, .selects RX3 yX3_signAt yX3_signAt, .initialized RX3, .code yX3_signAt cX3_signAt 2 (some .int), .fieldLink RX3 17 "StopSetter$Tape" "length" "I", .fieldLink RX3 9 "StopSetter$Tape" "signs" "[C", .methodLink RX2 116 yX2_sortOf, .static yX2_sortOf, .initialized RX2, .code yX2_sortOf cX2_sortOf 1 (some .int)] ++ wsX20 ++ wsX30)
def wsX2_advance : List Cond := .code yX2_advance cX2_advance 2 none :: ([.fieldLink RX2 24 "StopSetter$Reader" "behind" "I", .fieldLink RX2 106 "StopSetter$Reader" "place" "I", .fieldLink RX2 9 "StopSetter$Reader" "tape" "LStopSetter$Tape;", .fieldLink RX2 32 "StopSetter$Reader" "sort" "I", .methodLink RX2 109 yX2_runEnd, .instanceMethod yX2_runEnd, .selects RX2 yX2_runEnd yX2_runEnd, .initialized RX2, .code yX2_runEnd cX2_runEnd 4 (some .int), .methodLink RX2 113 yX3_signAt, .instanceMethod yX3_signAt, .selects RX3 yX3_signAt yX3_signAt, .initialized RX3, .code yX3_signAt cX3_signAt 2 (some .int), .fieldLink RX3 17 "StopSetter$Tape" "length" "I", .fieldLink RX3 9 "StopSetter$Tape" "signs" "[C", .methodLink RX2 116 yX2_sortOf, .static yX2_sortOf, .code yX2_sortOf cX2_sortOf 1 (some .int)] ++ wsX20 ++ wsX30)
def wsJ0_coder_7d493 : List Cond := .code yJ0_coder_7d493 cJ0_coder_7d493 1 (some .byte) :: ([.fieldLink RJ0 38 "java/lang/String" "COMPACT_STRINGS" "Z", .fieldLink RJ0 15 "java/lang/String" "coder" "B"])
def wsJ0_length_8abf5 : List Cond := .code yJ0_length_8abf5 cJ0_length_8abf5 1 (some .int) :: ([.fieldLink RJ0 9 "java/lang/String" "value" "[B", .methodLink RJ0 335 yJ0_coder_7d493, .instanceMethod yJ0_coder_7d493, .selects RJ0 yJ0_coder_7d493 yJ0_coder_7d493, .initialized RJ0, .code yJ0_coder_7d493 cJ0_coder_7d493 1 (some .byte), .fieldLink RJ0 38 "java/lang/String" "COMPACT_STRINGS" "Z", .fieldLink RJ0 15 "java/lang/String" "coder" "B"])
def wsJ0_isLatin1_aae02 : List Cond := .code yJ0_isLatin1_aae02 cJ0_isLatin1_aae02 1 (some .boolean) :: ([.fieldLink RJ0 38 "java/lang/String" "COMPACT_STRINGS" "Z", .fieldLink RJ0 15 "java/lang/String" "coder" "B"])
def wsJ3_checkIndex_8e157 : List Cond := .code yJ3_checkIndex_8e157 cJ3_checkIndex_8e157 3 (some .int) :: ([])
def wsJ0_checkIndex_df160 : List Cond := .code yJ0_checkIndex_df160 cJ0_checkIndex_df160 2 none :: ([.fieldLink RJ0 1053 "jdk/internal/util/Preconditions" "SIOOBE_FORMATTER" "Ljava/util/function/BiFunction;", .methodLink RJ0 1059 yJ3_checkIndex_8e157, .static yJ3_checkIndex_8e157, .initialized RJ3, .code yJ3_checkIndex_8e157 cJ3_checkIndex_8e157 3 (some .int)])
def wsJ1_charAt_3b067 : List Cond := .code yJ1_charAt_3b067 cJ1_charAt_3b067 2 (some .char) :: ([.methodLink RJ1 9 yJ0_checkIndex_df160, .static yJ0_checkIndex_df160, .initialized RJ0, .code yJ0_checkIndex_df160 cJ0_checkIndex_df160 2 none, .fieldLink RJ0 1053 "jdk/internal/util/Preconditions" "SIOOBE_FORMATTER" "Ljava/util/function/BiFunction;", .methodLink RJ0 1059 yJ3_checkIndex_8e157, .static yJ3_checkIndex_8e157, .initialized RJ3, .code yJ3_checkIndex_8e157 cJ3_checkIndex_8e157 3 (some .int)])
def wsJ2_length_9d52b : List Cond := .code yJ2_length_9d52b cJ2_length_9d52b 1 (some .int) :: ([])
def wsJ2_checkIndex_2214a : List Cond := .code yJ2_checkIndex_2214a cJ2_checkIndex_2214a 2 none :: ([.methodLink RJ2 48 yJ2_length_9d52b, .static yJ2_length_9d52b, .initialized RJ2, .code yJ2_length_9d52b cJ2_length_9d52b 1 (some .int), .methodLink RJ2 414 yJ0_checkIndex_df160, .static yJ0_checkIndex_df160, .initialized RJ0, .code yJ0_checkIndex_df160 cJ0_checkIndex_df160 2 none, .fieldLink RJ0 1053 "jdk/internal/util/Preconditions" "SIOOBE_FORMATTER" "Ljava/util/function/BiFunction;", .methodLink RJ0 1059 yJ3_checkIndex_8e157, .static yJ3_checkIndex_8e157, .initialized RJ3, .code yJ3_checkIndex_8e157 cJ3_checkIndex_8e157 3 (some .int)])
def wsJ2_getChar_3b067 : List Cond := .code yJ2_getChar_3b067 cJ2_getChar_3b067 2 (some .char) :: ([.fieldLink RJ2 44 "java/lang/StringUTF16" "$assertionsDisabled" "Z", .fieldLink RJ2 59 "java/lang/StringUTF16" "HI_BYTE_SHIFT" "I", .fieldLink RJ2 63 "java/lang/StringUTF16" "LO_BYTE_SHIFT" "I", .methodLink RJ2 48 yJ2_length_9d52b, .static yJ2_length_9d52b, .initialized RJ2, .code yJ2_length_9d52b cJ2_length_9d52b 1 (some .int)])
def wsJ2_charAt_3b067 : List Cond := .code yJ2_charAt_3b067 cJ2_charAt_3b067 2 (some .char) :: ([.methodLink RJ2 67 yJ2_checkIndex_2214a, .static yJ2_checkIndex_2214a, .initialized RJ2, .code yJ2_checkIndex_2214a cJ2_checkIndex_2214a 2 none, .methodLink RJ2 48 yJ2_length_9d52b, .static yJ2_length_9d52b, .code yJ2_length_9d52b cJ2_length_9d52b 1 (some .int), .methodLink RJ2 414 yJ0_checkIndex_df160, .static yJ0_checkIndex_df160, .initialized RJ0, .code yJ0_checkIndex_df160 cJ0_checkIndex_df160 2 none, .fieldLink RJ0 1053 "jdk/internal/util/Preconditions" "SIOOBE_FORMATTER" "Ljava/util/function/BiFunction;", .methodLink RJ0 1059 yJ3_checkIndex_8e157, .static yJ3_checkIndex_8e157, .initialized RJ3, .code yJ3_checkIndex_8e157 cJ3_checkIndex_8e157 3 (some .int), .methodLink RJ2 71 yJ2_getChar_3b067, .static yJ2_getChar_3b067, .code yJ2_getChar_3b067 cJ2_getChar_3b067 2 (some .char), .fieldLink RJ2 44 "java/lang/StringUTF16" "$assertionsDisabled" "Z", .fieldLink RJ2 59 "java/lang/StringUTF16" "HI_BYTE_SHIFT" "I", .fieldLink RJ2 63 "java/lang/StringUTF16" "LO_BYTE_SHIFT" "I"])
def wsJ0_charAt_5068e_r1 : List Cond := [Cond.fieldLink RJ0 9 "java/lang/String" "value" "[B", Cond.methodLink RJ0 492 yJ0_isLatin1_aae02, Cond.instanceMethod yJ0_isLatin1_aae02, Cond.selects RJ0 yJ0_isLatin1_aae02 yJ0_isLatin1_aae02, Cond.initialized RJ0, Cond.code yJ0_isLatin1_aae02 cJ0_isLatin1_aae02 1 (some .boolean), Cond.fieldLink RJ0 38 "java/lang/String" "COMPACT_STRINGS" "Z", Cond.fieldLink RJ0 15 "java/lang/String" "coder" "B", Cond.methodLink RJ0 495 yJ1_charAt_3b067, Cond.static yJ1_charAt_3b067, Cond.initialized RJ1, Cond.code yJ1_charAt_3b067 cJ1_charAt_3b067 2 (some .char), Cond.methodLink RJ1 9 yJ0_checkIndex_df160, Cond.static yJ0_checkIndex_df160, Cond.code yJ0_checkIndex_df160 cJ0_checkIndex_df160 2 none, Cond.fieldLink RJ0 1053 "jdk/internal/util/Preconditions" "SIOOBE_FORMATTER" "Ljava/util/function/BiFunction;", Cond.methodLink RJ0 1059 yJ3_checkIndex_8e157, Cond.static yJ3_checkIndex_8e157, Cond.initialized RJ3, Cond.code yJ3_checkIndex_8e157 cJ3_checkIndex_8e157 3 (some .int), Cond.methodLink RJ0 498 yJ2_charAt_3b067, Cond.static yJ2_charAt_3b067, Cond.initialized RJ2, Cond.code yJ2_charAt_3b067 cJ2_charAt_3b067 2 (some .char)]
def wsJ0_charAt_5068e_r2 : List Cond := [Cond.methodLink RJ2 67 yJ2_checkIndex_2214a, Cond.static yJ2_checkIndex_2214a, Cond.code yJ2_checkIndex_2214a cJ2_checkIndex_2214a 2 none, Cond.methodLink RJ2 48 yJ2_length_9d52b, Cond.static yJ2_length_9d52b, Cond.code yJ2_length_9d52b cJ2_length_9d52b 1 (some .int), Cond.methodLink RJ2 414 yJ0_checkIndex_df160, Cond.methodLink RJ2 71 yJ2_getChar_3b067, Cond.static yJ2_getChar_3b067, Cond.code yJ2_getChar_3b067 cJ2_getChar_3b067 2 (some .char), Cond.fieldLink RJ2 44 "java/lang/StringUTF16" "$assertionsDisabled" "Z", Cond.fieldLink RJ2 59 "java/lang/StringUTF16" "HI_BYTE_SHIFT" "I", Cond.fieldLink RJ2 63 "java/lang/StringUTF16" "LO_BYTE_SHIFT" "I"]
def wsJ0_charAt_5068e : List Cond := .code yJ0_charAt_5068e cJ0_charAt_5068e 2 (some .char) :: ((wsJ0_charAt_5068e_r1 ++ wsJ0_charAt_5068e_r2))
def wsX2_isText_r1 : List Cond := [Cond.fieldLink RX2 32 "StopSetter$Reader" "sort" "I", Cond.fieldLink RX2 24 "StopSetter$Reader" "behind" "I", Cond.fieldLink RX2 106 "StopSetter$Reader" "place" "I", Cond.fieldLink RX2 9 "StopSetter$Reader" "tape" "LStopSetter$Tape;", Cond.methodLink RX2 122 yJ0_length_8abf5, Cond.instanceMethod yJ0_length_8abf5, Cond.selects RJ0 yJ0_length_8abf5 yJ0_length_8abf5, Cond.initialized RJ0, Cond.code yJ0_length_8abf5 cJ0_length_8abf5 1 (some .int), Cond.fieldLink RJ0 9 "java/lang/String" "value" "[B", Cond.methodLink RJ0 335 yJ0_coder_7d493, Cond.instanceMethod yJ0_coder_7d493, Cond.selects RJ0 yJ0_coder_7d493 yJ0_coder_7d493, Cond.code yJ0_coder_7d493 cJ0_coder_7d493 1 (some .byte), Cond.fieldLink RJ0 38 "java/lang/String" "COMPACT_STRINGS" "Z", Cond.fieldLink RJ0 15 "java/lang/String" "coder" "B", Cond.methodLink RX2 113 yX3_signAt, Cond.instanceMethod yX3_signAt, Cond.selects RX3 yX3_signAt yX3_signAt, Cond.initialized RX3, Cond.code yX3_signAt cX3_signAt 2 (some .int), Cond.fieldLink RX3 17 "StopSetter$Tape" "length" "I", Cond.fieldLink RX3 9 "StopSetter$Tape" "signs" "[C", Cond.methodLink RX2 126 yJ0_charAt_5068e]
def wsX2_isText_r2 : List Cond := [Cond.instanceMethod yJ0_charAt_5068e, Cond.selects RJ0 yJ0_charAt_5068e yJ0_charAt_5068e, Cond.code yJ0_charAt_5068e cJ0_charAt_5068e 2 (some .char), Cond.methodLink RJ0 492 yJ0_isLatin1_aae02, Cond.instanceMethod yJ0_isLatin1_aae02, Cond.selects RJ0 yJ0_isLatin1_aae02 yJ0_isLatin1_aae02, Cond.code yJ0_isLatin1_aae02 cJ0_isLatin1_aae02 1 (some .boolean), Cond.methodLink RJ0 495 yJ1_charAt_3b067, Cond.static yJ1_charAt_3b067, Cond.initialized RJ1, Cond.code yJ1_charAt_3b067 cJ1_charAt_3b067 2 (some .char), Cond.methodLink RJ1 9 yJ0_checkIndex_df160, Cond.static yJ0_checkIndex_df160, Cond.code yJ0_checkIndex_df160 cJ0_checkIndex_df160 2 none, Cond.fieldLink RJ0 1053 "jdk/internal/util/Preconditions" "SIOOBE_FORMATTER" "Ljava/util/function/BiFunction;", Cond.methodLink RJ0 1059 yJ3_checkIndex_8e157, Cond.static yJ3_checkIndex_8e157, Cond.initialized RJ3, Cond.code yJ3_checkIndex_8e157 cJ3_checkIndex_8e157 3 (some .int), Cond.methodLink RJ0 498 yJ2_charAt_3b067, Cond.static yJ2_charAt_3b067, Cond.initialized RJ2, Cond.code yJ2_charAt_3b067 cJ2_charAt_3b067 2 (some .char), Cond.methodLink RJ2 67 yJ2_checkIndex_2214a]
def wsX2_isText_r3 : List Cond := [Cond.static yJ2_checkIndex_2214a, Cond.code yJ2_checkIndex_2214a cJ2_checkIndex_2214a 2 none, Cond.methodLink RJ2 48 yJ2_length_9d52b, Cond.static yJ2_length_9d52b, Cond.code yJ2_length_9d52b cJ2_length_9d52b 1 (some .int), Cond.methodLink RJ2 414 yJ0_checkIndex_df160, Cond.methodLink RJ2 71 yJ2_getChar_3b067, Cond.static yJ2_getChar_3b067, Cond.code yJ2_getChar_3b067 cJ2_getChar_3b067 2 (some .char), Cond.fieldLink RJ2 44 "java/lang/StringUTF16" "$assertionsDisabled" "Z", Cond.fieldLink RJ2 59 "java/lang/StringUTF16" "HI_BYTE_SHIFT" "I", Cond.fieldLink RJ2 63 "java/lang/StringUTF16" "LO_BYTE_SHIFT" "I"]
def wsX2_isText : List Cond := .code yX2_isText cX2_isText 3 (some .boolean) :: ((wsX2_isText_r1 ++ (wsX2_isText_r2 ++ wsX2_isText_r3)) ++ wsX20 ++ wsX30)
def wsX2_refuse : List Cond := .code yX2_refuse cX2_refuse 2 none :: ([.fieldLink RX2 20 "StopSetter$Reader" "fault" "I", .fieldLink RX2 106 "StopSetter$Reader" "place" "I"] ++ wsX20)
def wsX2_numberHere : List Cond := .code yX2_numberHere cX2_numberHere 3 (some .int) :: ([.fieldLink RX2 106 "StopSetter$Reader" "place" "I", .fieldLink RX2 24 "StopSetter$Reader" "behind" "I", .fieldLink RX2 9 "StopSetter$Reader" "tape" "LStopSetter$Tape;", .methodLink RX2 113 yX3_signAt, .instanceMethod yX3_signAt, .selects RX3 yX3_signAt yX3_signAt, .initialized RX3, .code yX3_signAt cX3_signAt 2 (some .int), .fieldLink RX3 17 "StopSetter$Tape" "length" "I", .fieldLink RX3 9 "StopSetter$Tape" "signs" "[C"] ++ wsX20 ++ wsX30)
def wsX2_readNumber_r1 : List Cond := [Cond.fieldLink RX2 32 "StopSetter$Reader" "sort" "I", Cond.fieldLink RX2 20 "StopSetter$Reader" "fault" "I", Cond.methodLink RX2 103 yX2_numberHere, Cond.instanceMethod yX2_numberHere, Cond.selects RX2 yX2_numberHere yX2_numberHere, Cond.initialized RX2, Cond.code yX2_numberHere cX2_numberHere 3 (some .int), Cond.fieldLink RX2 106 "StopSetter$Reader" "place" "I", Cond.fieldLink RX2 24 "StopSetter$Reader" "behind" "I", Cond.fieldLink RX2 9 "StopSetter$Reader" "tape" "LStopSetter$Tape;", Cond.methodLink RX2 113 yX3_signAt, Cond.instanceMethod yX3_signAt, Cond.selects RX3 yX3_signAt yX3_signAt, Cond.initialized RX3, Cond.code yX3_signAt cX3_signAt 2 (some .int), Cond.fieldLink RX3 17 "StopSetter$Tape" "length" "I", Cond.fieldLink RX3 9 "StopSetter$Tape" "signs" "[C", Cond.methodLink RX2 50 yX2_refuse, Cond.instanceMethod yX2_refuse, Cond.selects RX2 yX2_refuse yX2_refuse, Cond.code yX2_refuse cX2_refuse 2 none, Cond.methodLink RX2 27 yX2_advance, Cond.instanceMethod yX2_advance, Cond.selects RX2 yX2_advance yX2_advance]
def wsX2_readNumber_r2 : List Cond := [Cond.code yX2_advance cX2_advance 2 none, Cond.methodLink RX2 109 yX2_runEnd, Cond.instanceMethod yX2_runEnd, Cond.selects RX2 yX2_runEnd yX2_runEnd, Cond.code yX2_runEnd cX2_runEnd 4 (some .int), Cond.methodLink RX2 116 yX2_sortOf, Cond.static yX2_sortOf, Cond.code yX2_sortOf cX2_sortOf 1 (some .int)]
def wsX2_readNumber : List Cond := .code yX2_readNumber cX2_readNumber 3 (some .int) :: ((wsX2_readNumber_r1 ++ wsX2_readNumber_r2) ++ wsX20 ++ wsX30)
def wsX2_passIf_r1 : List Cond := [Cond.fieldLink RX2 20 "StopSetter$Reader" "fault" "I", Cond.methodLink RX2 50 yX2_refuse, Cond.instanceMethod yX2_refuse, Cond.selects RX2 yX2_refuse yX2_refuse, Cond.initialized RX2, Cond.code yX2_refuse cX2_refuse 2 none, Cond.fieldLink RX2 106 "StopSetter$Reader" "place" "I", Cond.methodLink RX2 27 yX2_advance, Cond.instanceMethod yX2_advance, Cond.selects RX2 yX2_advance yX2_advance, Cond.code yX2_advance cX2_advance 2 none, Cond.fieldLink RX2 24 "StopSetter$Reader" "behind" "I", Cond.fieldLink RX2 9 "StopSetter$Reader" "tape" "LStopSetter$Tape;", Cond.fieldLink RX2 32 "StopSetter$Reader" "sort" "I", Cond.methodLink RX2 109 yX2_runEnd, Cond.instanceMethod yX2_runEnd, Cond.selects RX2 yX2_runEnd yX2_runEnd, Cond.code yX2_runEnd cX2_runEnd 4 (some .int), Cond.methodLink RX2 113 yX3_signAt, Cond.instanceMethod yX3_signAt, Cond.selects RX3 yX3_signAt yX3_signAt, Cond.initialized RX3, Cond.code yX3_signAt cX3_signAt 2 (some .int), Cond.fieldLink RX3 17 "StopSetter$Tape" "length" "I"]
def wsX2_passIf_r2 : List Cond := [Cond.fieldLink RX3 9 "StopSetter$Tape" "signs" "[C", Cond.methodLink RX2 116 yX2_sortOf, Cond.static yX2_sortOf, Cond.code yX2_sortOf cX2_sortOf 1 (some .int)]
def wsX2_passIf : List Cond := .code yX2_passIf cX2_passIf 2 none :: ((wsX2_passIf_r1 ++ wsX2_passIf_r2) ++ wsX20 ++ wsX30)
def wsX2_goMarkHere_r1 : List Cond := [Cond.methodLink RX2 37 yX2_isText, Cond.instanceMethod yX2_isText, Cond.selects RX2 yX2_isText yX2_isText, Cond.initialized RX2, Cond.code yX2_isText cX2_isText 3 (some .boolean), Cond.fieldLink RX2 32 "StopSetter$Reader" "sort" "I", Cond.fieldLink RX2 24 "StopSetter$Reader" "behind" "I", Cond.fieldLink RX2 106 "StopSetter$Reader" "place" "I", Cond.fieldLink RX2 9 "StopSetter$Reader" "tape" "LStopSetter$Tape;", Cond.methodLink RX2 122 yJ0_length_8abf5, Cond.instanceMethod yJ0_length_8abf5, Cond.selects RJ0 yJ0_length_8abf5 yJ0_length_8abf5, Cond.initialized RJ0, Cond.code yJ0_length_8abf5 cJ0_length_8abf5 1 (some .int), Cond.fieldLink RJ0 9 "java/lang/String" "value" "[B", Cond.methodLink RJ0 335 yJ0_coder_7d493, Cond.instanceMethod yJ0_coder_7d493, Cond.selects RJ0 yJ0_coder_7d493 yJ0_coder_7d493, Cond.code yJ0_coder_7d493 cJ0_coder_7d493 1 (some .byte), Cond.fieldLink RJ0 38 "java/lang/String" "COMPACT_STRINGS" "Z", Cond.fieldLink RJ0 15 "java/lang/String" "coder" "B", Cond.methodLink RX2 113 yX3_signAt, Cond.instanceMethod yX3_signAt, Cond.selects RX3 yX3_signAt yX3_signAt]
def wsX2_goMarkHere_r2 : List Cond := [Cond.initialized RX3, Cond.code yX3_signAt cX3_signAt 2 (some .int), Cond.fieldLink RX3 17 "StopSetter$Tape" "length" "I", Cond.fieldLink RX3 9 "StopSetter$Tape" "signs" "[C", Cond.methodLink RX2 126 yJ0_charAt_5068e, Cond.instanceMethod yJ0_charAt_5068e, Cond.selects RJ0 yJ0_charAt_5068e yJ0_charAt_5068e, Cond.code yJ0_charAt_5068e cJ0_charAt_5068e 2 (some .char), Cond.methodLink RJ0 492 yJ0_isLatin1_aae02, Cond.instanceMethod yJ0_isLatin1_aae02, Cond.selects RJ0 yJ0_isLatin1_aae02 yJ0_isLatin1_aae02, Cond.code yJ0_isLatin1_aae02 cJ0_isLatin1_aae02 1 (some .boolean), Cond.methodLink RJ0 495 yJ1_charAt_3b067, Cond.static yJ1_charAt_3b067, Cond.initialized RJ1, Cond.code yJ1_charAt_3b067 cJ1_charAt_3b067 2 (some .char), Cond.methodLink RJ1 9 yJ0_checkIndex_df160, Cond.static yJ0_checkIndex_df160, Cond.code yJ0_checkIndex_df160 cJ0_checkIndex_df160 2 none, Cond.fieldLink RJ0 1053 "jdk/internal/util/Preconditions" "SIOOBE_FORMATTER" "Ljava/util/function/BiFunction;", Cond.methodLink RJ0 1059 yJ3_checkIndex_8e157, Cond.static yJ3_checkIndex_8e157, Cond.initialized RJ3, Cond.code yJ3_checkIndex_8e157 cJ3_checkIndex_8e157 3 (some .int)]
def wsX2_goMarkHere_r3 : List Cond := [Cond.methodLink RJ0 498 yJ2_charAt_3b067, Cond.static yJ2_charAt_3b067, Cond.initialized RJ2, Cond.code yJ2_charAt_3b067 cJ2_charAt_3b067 2 (some .char), Cond.methodLink RJ2 67 yJ2_checkIndex_2214a, Cond.static yJ2_checkIndex_2214a, Cond.code yJ2_checkIndex_2214a cJ2_checkIndex_2214a 2 none, Cond.methodLink RJ2 48 yJ2_length_9d52b, Cond.static yJ2_length_9d52b, Cond.code yJ2_length_9d52b cJ2_length_9d52b 1 (some .int), Cond.methodLink RJ2 414 yJ0_checkIndex_df160, Cond.methodLink RJ2 71 yJ2_getChar_3b067, Cond.static yJ2_getChar_3b067, Cond.code yJ2_getChar_3b067 cJ2_getChar_3b067 2 (some .char), Cond.fieldLink RJ2 44 "java/lang/StringUTF16" "$assertionsDisabled" "Z", Cond.fieldLink RJ2 59 "java/lang/StringUTF16" "HI_BYTE_SHIFT" "I", Cond.fieldLink RJ2 63 "java/lang/StringUTF16" "LO_BYTE_SHIFT" "I"]
def wsX2_goMarkHere : List Cond := .code yX2_goMarkHere cX2_goMarkHere 1 (some .int) :: ((wsX2_goMarkHere_r1 ++ (wsX2_goMarkHere_r2 ++ wsX2_goMarkHere_r3)) ++ wsX20 ++ wsX30)
def wsX2_readGo_r1 : List Cond := [Cond.fieldLink RX2 32 "StopSetter$Reader" "sort" "I", Cond.fieldLink RX2 20 "StopSetter$Reader" "fault" "I", Cond.methodLink RX2 50 yX2_refuse, Cond.instanceMethod yX2_refuse, Cond.selects RX2 yX2_refuse yX2_refuse, Cond.initialized RX2, Cond.code yX2_refuse cX2_refuse 2 none, Cond.fieldLink RX2 106 "StopSetter$Reader" "place" "I", Cond.methodLink RX2 27 yX2_advance, Cond.instanceMethod yX2_advance, Cond.selects RX2 yX2_advance yX2_advance, Cond.code yX2_advance cX2_advance 2 none, Cond.fieldLink RX2 24 "StopSetter$Reader" "behind" "I", Cond.fieldLink RX2 9 "StopSetter$Reader" "tape" "LStopSetter$Tape;", Cond.methodLink RX2 109 yX2_runEnd, Cond.instanceMethod yX2_runEnd, Cond.selects RX2 yX2_runEnd yX2_runEnd, Cond.code yX2_runEnd cX2_runEnd 4 (some .int), Cond.methodLink RX2 113 yX3_signAt, Cond.instanceMethod yX3_signAt, Cond.selects RX3 yX3_signAt yX3_signAt, Cond.initialized RX3, Cond.code yX3_signAt cX3_signAt 2 (some .int), Cond.fieldLink RX3 17 "StopSetter$Tape" "length" "I"]
def wsX2_readGo_r2 : List Cond := [Cond.fieldLink RX3 9 "StopSetter$Tape" "signs" "[C", Cond.methodLink RX2 116 yX2_sortOf, Cond.static yX2_sortOf, Cond.code yX2_sortOf cX2_sortOf 1 (some .int), Cond.methodLink RX2 57 yX2_readNumber, Cond.instanceMethod yX2_readNumber, Cond.selects RX2 yX2_readNumber yX2_readNumber, Cond.code yX2_readNumber cX2_readNumber 3 (some .int), Cond.methodLink RX2 103 yX2_numberHere, Cond.instanceMethod yX2_numberHere, Cond.selects RX2 yX2_numberHere yX2_numberHere, Cond.code yX2_numberHere cX2_numberHere 3 (some .int), Cond.methodLink RX2 37 yX2_isText, Cond.instanceMethod yX2_isText, Cond.selects RX2 yX2_isText yX2_isText, Cond.code yX2_isText cX2_isText 3 (some .boolean), Cond.methodLink RX2 122 yJ0_length_8abf5, Cond.instanceMethod yJ0_length_8abf5, Cond.selects RJ0 yJ0_length_8abf5 yJ0_length_8abf5, Cond.initialized RJ0, Cond.code yJ0_length_8abf5 cJ0_length_8abf5 1 (some .int), Cond.fieldLink RJ0 9 "java/lang/String" "value" "[B", Cond.methodLink RJ0 335 yJ0_coder_7d493, Cond.instanceMethod yJ0_coder_7d493]
def wsX2_readGo_r3 : List Cond := [Cond.selects RJ0 yJ0_coder_7d493 yJ0_coder_7d493, Cond.code yJ0_coder_7d493 cJ0_coder_7d493 1 (some .byte), Cond.fieldLink RJ0 38 "java/lang/String" "COMPACT_STRINGS" "Z", Cond.fieldLink RJ0 15 "java/lang/String" "coder" "B", Cond.methodLink RX2 126 yJ0_charAt_5068e, Cond.instanceMethod yJ0_charAt_5068e, Cond.selects RJ0 yJ0_charAt_5068e yJ0_charAt_5068e, Cond.code yJ0_charAt_5068e cJ0_charAt_5068e 2 (some .char), Cond.methodLink RJ0 492 yJ0_isLatin1_aae02, Cond.instanceMethod yJ0_isLatin1_aae02, Cond.selects RJ0 yJ0_isLatin1_aae02 yJ0_isLatin1_aae02, Cond.code yJ0_isLatin1_aae02 cJ0_isLatin1_aae02 1 (some .boolean), Cond.methodLink RJ0 495 yJ1_charAt_3b067, Cond.static yJ1_charAt_3b067, Cond.initialized RJ1, Cond.code yJ1_charAt_3b067 cJ1_charAt_3b067 2 (some .char), Cond.methodLink RJ1 9 yJ0_checkIndex_df160, Cond.static yJ0_checkIndex_df160, Cond.code yJ0_checkIndex_df160 cJ0_checkIndex_df160 2 none, Cond.fieldLink RJ0 1053 "jdk/internal/util/Preconditions" "SIOOBE_FORMATTER" "Ljava/util/function/BiFunction;", Cond.methodLink RJ0 1059 yJ3_checkIndex_8e157, Cond.static yJ3_checkIndex_8e157, Cond.initialized RJ3, Cond.code yJ3_checkIndex_8e157 cJ3_checkIndex_8e157 3 (some .int)]
def wsX2_readGo_r4 : List Cond := [Cond.methodLink RJ0 498 yJ2_charAt_3b067, Cond.static yJ2_charAt_3b067, Cond.initialized RJ2, Cond.code yJ2_charAt_3b067 cJ2_charAt_3b067 2 (some .char), Cond.methodLink RJ2 67 yJ2_checkIndex_2214a, Cond.static yJ2_checkIndex_2214a, Cond.code yJ2_checkIndex_2214a cJ2_checkIndex_2214a 2 none, Cond.methodLink RJ2 48 yJ2_length_9d52b, Cond.static yJ2_length_9d52b, Cond.code yJ2_length_9d52b cJ2_length_9d52b 1 (some .int), Cond.methodLink RJ2 414 yJ0_checkIndex_df160, Cond.methodLink RJ2 71 yJ2_getChar_3b067, Cond.static yJ2_getChar_3b067, Cond.code yJ2_getChar_3b067 cJ2_getChar_3b067 2 (some .char), Cond.fieldLink RJ2 44 "java/lang/StringUTF16" "$assertionsDisabled" "Z", Cond.fieldLink RJ2 59 "java/lang/StringUTF16" "HI_BYTE_SHIFT" "I", Cond.fieldLink RJ2 63 "java/lang/StringUTF16" "LO_BYTE_SHIFT" "I", Cond.methodLink RX2 63 yX2_passIf, Cond.instanceMethod yX2_passIf, Cond.selects RX2 yX2_passIf yX2_passIf, Cond.code yX2_passIf cX2_passIf 2 none, Cond.methodLink RX2 73 yX2_goMarkHere, Cond.instanceMethod yX2_goMarkHere, Cond.selects RX2 yX2_goMarkHere yX2_goMarkHere]
def wsX2_readGo_r5 : List Cond := [Cond.code yX2_goMarkHere cX2_goMarkHere 1 (some .int), Cond.methodLink RX2 77 yX1_addGo, Cond.instanceMethod yX1_addGo, Cond.selects RX1 yX1_addGo yX1_addGo, Cond.initialized RX1, Cond.code yX1_addGo cX1_addGo 6 none, Cond.fieldLink RX1 42 "StopSetter$Grammar" "goCount" "I", Cond.fieldLink RX1 11 "StopSetter$Grammar" "goFrom" "[I", Cond.fieldLink RX1 15 "StopSetter$Grammar" "goKind" "[I", Cond.fieldLink RX1 18 "StopSetter$Grammar" "goTo" "[I", Cond.fieldLink RX1 21 "StopSetter$Grammar" "goCost" "[I", Cond.fieldLink RX1 24 "StopSetter$Grammar" "goMark" "[I"]
def wsX2_readGo : List Cond := .code yX2_readGo cX2_readGo 7 none :: ((wsX2_readGo_r1 ++ (wsX2_readGo_r2 ++ (wsX2_readGo_r3 ++ (wsX2_readGo_r4 ++ wsX2_readGo_r5)))) ++ wsX10 ++ wsX20 ++ wsX30)
def wsX2_endMarkHere_r1 : List Cond := [Cond.methodLink RX2 37 yX2_isText, Cond.instanceMethod yX2_isText, Cond.selects RX2 yX2_isText yX2_isText, Cond.initialized RX2, Cond.code yX2_isText cX2_isText 3 (some .boolean), Cond.fieldLink RX2 32 "StopSetter$Reader" "sort" "I", Cond.fieldLink RX2 24 "StopSetter$Reader" "behind" "I", Cond.fieldLink RX2 106 "StopSetter$Reader" "place" "I", Cond.fieldLink RX2 9 "StopSetter$Reader" "tape" "LStopSetter$Tape;", Cond.methodLink RX2 122 yJ0_length_8abf5, Cond.instanceMethod yJ0_length_8abf5, Cond.selects RJ0 yJ0_length_8abf5 yJ0_length_8abf5, Cond.initialized RJ0, Cond.code yJ0_length_8abf5 cJ0_length_8abf5 1 (some .int), Cond.fieldLink RJ0 9 "java/lang/String" "value" "[B", Cond.methodLink RJ0 335 yJ0_coder_7d493, Cond.instanceMethod yJ0_coder_7d493, Cond.selects RJ0 yJ0_coder_7d493 yJ0_coder_7d493, Cond.code yJ0_coder_7d493 cJ0_coder_7d493 1 (some .byte), Cond.fieldLink RJ0 38 "java/lang/String" "COMPACT_STRINGS" "Z", Cond.fieldLink RJ0 15 "java/lang/String" "coder" "B", Cond.methodLink RX2 113 yX3_signAt, Cond.instanceMethod yX3_signAt, Cond.selects RX3 yX3_signAt yX3_signAt]
def wsX2_endMarkHere_r2 : List Cond := [Cond.initialized RX3, Cond.code yX3_signAt cX3_signAt 2 (some .int), Cond.fieldLink RX3 17 "StopSetter$Tape" "length" "I", Cond.fieldLink RX3 9 "StopSetter$Tape" "signs" "[C", Cond.methodLink RX2 126 yJ0_charAt_5068e, Cond.instanceMethod yJ0_charAt_5068e, Cond.selects RJ0 yJ0_charAt_5068e yJ0_charAt_5068e, Cond.code yJ0_charAt_5068e cJ0_charAt_5068e 2 (some .char), Cond.methodLink RJ0 492 yJ0_isLatin1_aae02, Cond.instanceMethod yJ0_isLatin1_aae02, Cond.selects RJ0 yJ0_isLatin1_aae02 yJ0_isLatin1_aae02, Cond.code yJ0_isLatin1_aae02 cJ0_isLatin1_aae02 1 (some .boolean), Cond.methodLink RJ0 495 yJ1_charAt_3b067, Cond.static yJ1_charAt_3b067, Cond.initialized RJ1, Cond.code yJ1_charAt_3b067 cJ1_charAt_3b067 2 (some .char), Cond.methodLink RJ1 9 yJ0_checkIndex_df160, Cond.static yJ0_checkIndex_df160, Cond.code yJ0_checkIndex_df160 cJ0_checkIndex_df160 2 none, Cond.fieldLink RJ0 1053 "jdk/internal/util/Preconditions" "SIOOBE_FORMATTER" "Ljava/util/function/BiFunction;", Cond.methodLink RJ0 1059 yJ3_checkIndex_8e157, Cond.static yJ3_checkIndex_8e157, Cond.initialized RJ3, Cond.code yJ3_checkIndex_8e157 cJ3_checkIndex_8e157 3 (some .int)]
def wsX2_endMarkHere_r3 : List Cond := [Cond.methodLink RJ0 498 yJ2_charAt_3b067, Cond.static yJ2_charAt_3b067, Cond.initialized RJ2, Cond.code yJ2_charAt_3b067 cJ2_charAt_3b067 2 (some .char), Cond.methodLink RJ2 67 yJ2_checkIndex_2214a, Cond.static yJ2_checkIndex_2214a, Cond.code yJ2_checkIndex_2214a cJ2_checkIndex_2214a 2 none, Cond.methodLink RJ2 48 yJ2_length_9d52b, Cond.static yJ2_length_9d52b, Cond.code yJ2_length_9d52b cJ2_length_9d52b 1 (some .int), Cond.methodLink RJ2 414 yJ0_checkIndex_df160, Cond.methodLink RJ2 71 yJ2_getChar_3b067, Cond.static yJ2_getChar_3b067, Cond.code yJ2_getChar_3b067 cJ2_getChar_3b067 2 (some .char), Cond.fieldLink RJ2 44 "java/lang/StringUTF16" "$assertionsDisabled" "Z", Cond.fieldLink RJ2 59 "java/lang/StringUTF16" "HI_BYTE_SHIFT" "I", Cond.fieldLink RJ2 63 "java/lang/StringUTF16" "LO_BYTE_SHIFT" "I"]
def wsX2_endMarkHere : List Cond := .code yX2_endMarkHere cX2_endMarkHere 1 (some .int) :: ((wsX2_endMarkHere_r1 ++ (wsX2_endMarkHere_r2 ++ wsX2_endMarkHere_r3)) ++ wsX20 ++ wsX30)
def wsX2_readEnd_r1 : List Cond := [Cond.fieldLink RX2 32 "StopSetter$Reader" "sort" "I", Cond.fieldLink RX2 20 "StopSetter$Reader" "fault" "I", Cond.methodLink RX2 50 yX2_refuse, Cond.instanceMethod yX2_refuse, Cond.selects RX2 yX2_refuse yX2_refuse, Cond.initialized RX2, Cond.code yX2_refuse cX2_refuse 2 none, Cond.fieldLink RX2 106 "StopSetter$Reader" "place" "I", Cond.methodLink RX2 27 yX2_advance, Cond.instanceMethod yX2_advance, Cond.selects RX2 yX2_advance yX2_advance, Cond.code yX2_advance cX2_advance 2 none, Cond.fieldLink RX2 24 "StopSetter$Reader" "behind" "I", Cond.fieldLink RX2 9 "StopSetter$Reader" "tape" "LStopSetter$Tape;", Cond.methodLink RX2 109 yX2_runEnd, Cond.instanceMethod yX2_runEnd, Cond.selects RX2 yX2_runEnd yX2_runEnd, Cond.code yX2_runEnd cX2_runEnd 4 (some .int), Cond.methodLink RX2 113 yX3_signAt, Cond.instanceMethod yX3_signAt, Cond.selects RX3 yX3_signAt yX3_signAt, Cond.initialized RX3, Cond.code yX3_signAt cX3_signAt 2 (some .int), Cond.fieldLink RX3 17 "StopSetter$Tape" "length" "I"]
def wsX2_readEnd_r2 : List Cond := [Cond.fieldLink RX3 9 "StopSetter$Tape" "signs" "[C", Cond.methodLink RX2 116 yX2_sortOf, Cond.static yX2_sortOf, Cond.code yX2_sortOf cX2_sortOf 1 (some .int), Cond.methodLink RX2 57 yX2_readNumber, Cond.instanceMethod yX2_readNumber, Cond.selects RX2 yX2_readNumber yX2_readNumber, Cond.code yX2_readNumber cX2_readNumber 3 (some .int), Cond.methodLink RX2 103 yX2_numberHere, Cond.instanceMethod yX2_numberHere, Cond.selects RX2 yX2_numberHere yX2_numberHere, Cond.code yX2_numberHere cX2_numberHere 3 (some .int), Cond.methodLink RX2 37 yX2_isText, Cond.instanceMethod yX2_isText, Cond.selects RX2 yX2_isText yX2_isText, Cond.code yX2_isText cX2_isText 3 (some .boolean), Cond.methodLink RX2 122 yJ0_length_8abf5, Cond.instanceMethod yJ0_length_8abf5, Cond.selects RJ0 yJ0_length_8abf5 yJ0_length_8abf5, Cond.initialized RJ0, Cond.code yJ0_length_8abf5 cJ0_length_8abf5 1 (some .int), Cond.fieldLink RJ0 9 "java/lang/String" "value" "[B", Cond.methodLink RJ0 335 yJ0_coder_7d493, Cond.instanceMethod yJ0_coder_7d493]
def wsX2_readEnd_r3 : List Cond := [Cond.selects RJ0 yJ0_coder_7d493 yJ0_coder_7d493, Cond.code yJ0_coder_7d493 cJ0_coder_7d493 1 (some .byte), Cond.fieldLink RJ0 38 "java/lang/String" "COMPACT_STRINGS" "Z", Cond.fieldLink RJ0 15 "java/lang/String" "coder" "B", Cond.methodLink RX2 126 yJ0_charAt_5068e, Cond.instanceMethod yJ0_charAt_5068e, Cond.selects RJ0 yJ0_charAt_5068e yJ0_charAt_5068e, Cond.code yJ0_charAt_5068e cJ0_charAt_5068e 2 (some .char), Cond.methodLink RJ0 492 yJ0_isLatin1_aae02, Cond.instanceMethod yJ0_isLatin1_aae02, Cond.selects RJ0 yJ0_isLatin1_aae02 yJ0_isLatin1_aae02, Cond.code yJ0_isLatin1_aae02 cJ0_isLatin1_aae02 1 (some .boolean), Cond.methodLink RJ0 495 yJ1_charAt_3b067, Cond.static yJ1_charAt_3b067, Cond.initialized RJ1, Cond.code yJ1_charAt_3b067 cJ1_charAt_3b067 2 (some .char), Cond.methodLink RJ1 9 yJ0_checkIndex_df160, Cond.static yJ0_checkIndex_df160, Cond.code yJ0_checkIndex_df160 cJ0_checkIndex_df160 2 none, Cond.fieldLink RJ0 1053 "jdk/internal/util/Preconditions" "SIOOBE_FORMATTER" "Ljava/util/function/BiFunction;", Cond.methodLink RJ0 1059 yJ3_checkIndex_8e157, Cond.static yJ3_checkIndex_8e157, Cond.initialized RJ3, Cond.code yJ3_checkIndex_8e157 cJ3_checkIndex_8e157 3 (some .int)]
def wsX2_readEnd_r4 : List Cond := [Cond.methodLink RJ0 498 yJ2_charAt_3b067, Cond.static yJ2_charAt_3b067, Cond.initialized RJ2, Cond.code yJ2_charAt_3b067 cJ2_charAt_3b067 2 (some .char), Cond.methodLink RJ2 67 yJ2_checkIndex_2214a, Cond.static yJ2_checkIndex_2214a, Cond.code yJ2_checkIndex_2214a cJ2_checkIndex_2214a 2 none, Cond.methodLink RJ2 48 yJ2_length_9d52b, Cond.static yJ2_length_9d52b, Cond.code yJ2_length_9d52b cJ2_length_9d52b 1 (some .int), Cond.methodLink RJ2 414 yJ0_checkIndex_df160, Cond.methodLink RJ2 71 yJ2_getChar_3b067, Cond.static yJ2_getChar_3b067, Cond.code yJ2_getChar_3b067 cJ2_getChar_3b067 2 (some .char), Cond.fieldLink RJ2 44 "java/lang/StringUTF16" "$assertionsDisabled" "Z", Cond.fieldLink RJ2 59 "java/lang/StringUTF16" "HI_BYTE_SHIFT" "I", Cond.fieldLink RJ2 63 "java/lang/StringUTF16" "LO_BYTE_SHIFT" "I", Cond.methodLink RX2 63 yX2_passIf, Cond.instanceMethod yX2_passIf, Cond.selects RX2 yX2_passIf yX2_passIf, Cond.code yX2_passIf cX2_passIf 2 none, Cond.methodLink RX2 84 yX2_endMarkHere, Cond.instanceMethod yX2_endMarkHere, Cond.selects RX2 yX2_endMarkHere yX2_endMarkHere]
def wsX2_readEnd_r5 : List Cond := [Cond.code yX2_endMarkHere cX2_endMarkHere 1 (some .int), Cond.methodLink RX2 87 yX1_addEnd, Cond.instanceMethod yX1_addEnd, Cond.selects RX1 yX1_addEnd yX1_addEnd, Cond.initialized RX1, Cond.code yX1_addEnd cX1_addEnd 4 none, Cond.fieldLink RX1 46 "StopSetter$Grammar" "endCount" "I", Cond.fieldLink RX1 27 "StopSetter$Grammar" "endFrom" "[I", Cond.fieldLink RX1 30 "StopSetter$Grammar" "endCost" "[I", Cond.fieldLink RX1 33 "StopSetter$Grammar" "endMark" "[I"]
def wsX2_readEnd : List Cond := .code yX2_readEnd cX2_readEnd 5 none :: ((wsX2_readEnd_r1 ++ (wsX2_readEnd_r2 ++ (wsX2_readEnd_r3 ++ (wsX2_readEnd_r4 ++ wsX2_readEnd_r5)))) ++ wsX10 ++ wsX20 ++ wsX30)
def wsX2_read_r1 : List Cond := [Cond.fieldLink RX2 20 "StopSetter$Reader" "fault" "I", Cond.fieldLink RX2 24 "StopSetter$Reader" "behind" "I", Cond.fieldLink RX2 32 "StopSetter$Reader" "sort" "I", Cond.methodLink RX2 15 yX1_empty, Cond.instanceMethod yX1_empty, Cond.selects RX1 yX1_empty yX1_empty, Cond.initialized RX1, Cond.code yX1_empty cX1_empty 1 none, Cond.fieldLink RX1 42 "StopSetter$Grammar" "goCount" "I", Cond.fieldLink RX1 46 "StopSetter$Grammar" "endCount" "I", Cond.methodLink RX2 27 yX2_advance, Cond.instanceMethod yX2_advance, Cond.selects RX2 yX2_advance yX2_advance, Cond.initialized RX2, Cond.code yX2_advance cX2_advance 2 none, Cond.fieldLink RX2 106 "StopSetter$Reader" "place" "I", Cond.fieldLink RX2 9 "StopSetter$Reader" "tape" "LStopSetter$Tape;", Cond.methodLink RX2 109 yX2_runEnd, Cond.instanceMethod yX2_runEnd, Cond.selects RX2 yX2_runEnd yX2_runEnd, Cond.code yX2_runEnd cX2_runEnd 4 (some .int), Cond.methodLink RX2 113 yX3_signAt, Cond.instanceMethod yX3_signAt, Cond.selects RX3 yX3_signAt yX3_signAt]
def wsX2_read_r2 : List Cond := [Cond.initialized RX3, Cond.code yX3_signAt cX3_signAt 2 (some .int), Cond.fieldLink RX3 17 "StopSetter$Tape" "length" "I", Cond.fieldLink RX3 9 "StopSetter$Tape" "signs" "[C", Cond.methodLink RX2 116 yX2_sortOf, Cond.static yX2_sortOf, Cond.code yX2_sortOf cX2_sortOf 1 (some .int), Cond.methodLink RX2 37 yX2_isText, Cond.instanceMethod yX2_isText, Cond.selects RX2 yX2_isText yX2_isText, Cond.code yX2_isText cX2_isText 3 (some .boolean), Cond.methodLink RX2 122 yJ0_length_8abf5, Cond.instanceMethod yJ0_length_8abf5, Cond.selects RJ0 yJ0_length_8abf5 yJ0_length_8abf5, Cond.initialized RJ0, Cond.code yJ0_length_8abf5 cJ0_length_8abf5 1 (some .int), Cond.fieldLink RJ0 9 "java/lang/String" "value" "[B", Cond.methodLink RJ0 335 yJ0_coder_7d493, Cond.instanceMethod yJ0_coder_7d493, Cond.selects RJ0 yJ0_coder_7d493 yJ0_coder_7d493, Cond.code yJ0_coder_7d493 cJ0_coder_7d493 1 (some .byte), Cond.fieldLink RJ0 38 "java/lang/String" "COMPACT_STRINGS" "Z", Cond.fieldLink RJ0 15 "java/lang/String" "coder" "B", Cond.methodLink RX2 126 yJ0_charAt_5068e]
def wsX2_read_r3 : List Cond := [Cond.instanceMethod yJ0_charAt_5068e, Cond.selects RJ0 yJ0_charAt_5068e yJ0_charAt_5068e, Cond.code yJ0_charAt_5068e cJ0_charAt_5068e 2 (some .char), Cond.methodLink RJ0 492 yJ0_isLatin1_aae02, Cond.instanceMethod yJ0_isLatin1_aae02, Cond.selects RJ0 yJ0_isLatin1_aae02 yJ0_isLatin1_aae02, Cond.code yJ0_isLatin1_aae02 cJ0_isLatin1_aae02 1 (some .boolean), Cond.methodLink RJ0 495 yJ1_charAt_3b067, Cond.static yJ1_charAt_3b067, Cond.initialized RJ1, Cond.code yJ1_charAt_3b067 cJ1_charAt_3b067 2 (some .char), Cond.methodLink RJ1 9 yJ0_checkIndex_df160, Cond.static yJ0_checkIndex_df160, Cond.code yJ0_checkIndex_df160 cJ0_checkIndex_df160 2 none, Cond.fieldLink RJ0 1053 "jdk/internal/util/Preconditions" "SIOOBE_FORMATTER" "Ljava/util/function/BiFunction;", Cond.methodLink RJ0 1059 yJ3_checkIndex_8e157, Cond.static yJ3_checkIndex_8e157, Cond.initialized RJ3, Cond.code yJ3_checkIndex_8e157 cJ3_checkIndex_8e157 3 (some .int), Cond.methodLink RJ0 498 yJ2_charAt_3b067, Cond.static yJ2_charAt_3b067, Cond.initialized RJ2, Cond.code yJ2_charAt_3b067 cJ2_charAt_3b067 2 (some .char), Cond.methodLink RJ2 67 yJ2_checkIndex_2214a]
def wsX2_read_r4 : List Cond := [Cond.static yJ2_checkIndex_2214a, Cond.code yJ2_checkIndex_2214a cJ2_checkIndex_2214a 2 none, Cond.methodLink RJ2 48 yJ2_length_9d52b, Cond.static yJ2_length_9d52b, Cond.code yJ2_length_9d52b cJ2_length_9d52b 1 (some .int), Cond.methodLink RJ2 414 yJ0_checkIndex_df160, Cond.methodLink RJ2 71 yJ2_getChar_3b067, Cond.static yJ2_getChar_3b067, Cond.code yJ2_getChar_3b067 cJ2_getChar_3b067 2 (some .char), Cond.fieldLink RJ2 44 "java/lang/StringUTF16" "$assertionsDisabled" "Z", Cond.fieldLink RJ2 59 "java/lang/StringUTF16" "HI_BYTE_SHIFT" "I", Cond.fieldLink RJ2 63 "java/lang/StringUTF16" "LO_BYTE_SHIFT" "I", Cond.methodLink RX2 41 yX2_readGo, Cond.instanceMethod yX2_readGo, Cond.selects RX2 yX2_readGo yX2_readGo, Cond.code yX2_readGo cX2_readGo 7 none, Cond.methodLink RX2 50 yX2_refuse, Cond.instanceMethod yX2_refuse, Cond.selects RX2 yX2_refuse yX2_refuse, Cond.code yX2_refuse cX2_refuse 2 none, Cond.methodLink RX2 57 yX2_readNumber, Cond.instanceMethod yX2_readNumber, Cond.selects RX2 yX2_readNumber yX2_readNumber, Cond.code yX2_readNumber cX2_readNumber 3 (some .int)]
def wsX2_read_r5 : List Cond := [Cond.methodLink RX2 103 yX2_numberHere, Cond.instanceMethod yX2_numberHere, Cond.selects RX2 yX2_numberHere yX2_numberHere, Cond.code yX2_numberHere cX2_numberHere 3 (some .int), Cond.methodLink RX2 63 yX2_passIf, Cond.instanceMethod yX2_passIf, Cond.selects RX2 yX2_passIf yX2_passIf, Cond.code yX2_passIf cX2_passIf 2 none, Cond.methodLink RX2 73 yX2_goMarkHere, Cond.instanceMethod yX2_goMarkHere, Cond.selects RX2 yX2_goMarkHere yX2_goMarkHere, Cond.code yX2_goMarkHere cX2_goMarkHere 1 (some .int), Cond.methodLink RX2 77 yX1_addGo, Cond.instanceMethod yX1_addGo, Cond.selects RX1 yX1_addGo yX1_addGo, Cond.code yX1_addGo cX1_addGo 6 none, Cond.fieldLink RX1 11 "StopSetter$Grammar" "goFrom" "[I", Cond.fieldLink RX1 15 "StopSetter$Grammar" "goKind" "[I", Cond.fieldLink RX1 18 "StopSetter$Grammar" "goTo" "[I", Cond.fieldLink RX1 21 "StopSetter$Grammar" "goCost" "[I", Cond.fieldLink RX1 24 "StopSetter$Grammar" "goMark" "[I", Cond.methodLink RX2 47 yX2_readEnd, Cond.instanceMethod yX2_readEnd, Cond.selects RX2 yX2_readEnd yX2_readEnd]
def wsX2_read_r6 : List Cond := [Cond.code yX2_readEnd cX2_readEnd 5 none, Cond.methodLink RX2 84 yX2_endMarkHere, Cond.instanceMethod yX2_endMarkHere, Cond.selects RX2 yX2_endMarkHere yX2_endMarkHere, Cond.code yX2_endMarkHere cX2_endMarkHere 1 (some .int), Cond.methodLink RX2 87 yX1_addEnd, Cond.instanceMethod yX1_addEnd, Cond.selects RX1 yX1_addEnd yX1_addEnd, Cond.code yX1_addEnd cX1_addEnd 4 none, Cond.fieldLink RX1 27 "StopSetter$Grammar" "endFrom" "[I", Cond.fieldLink RX1 30 "StopSetter$Grammar" "endCost" "[I", Cond.fieldLink RX1 33 "StopSetter$Grammar" "endMark" "[I"]
def wsX2_read : List Cond := .code yX2_read cX2_read 3 (some .int) :: ((wsX2_read_r1 ++ (wsX2_read_r2 ++ (wsX2_read_r3 ++ (wsX2_read_r4 ++ (wsX2_read_r5 ++ wsX2_read_r6))))) ++ wsX20 ++ wsX10 ++ wsX30)
def wsX3_init : List Cond := .code yX3_init cX3_init 1 none :: ([.methodLink RX3 1 objectInit, .instanceMethod objectInit, .code objectInit ⟨#[0xb1]⟩ 1 none, .arrayClass .char, .fieldLink RX3 9 "StopSetter$Tape" "signs" "[C"] ++ wsX30)
def wsX3_addSign : List Cond := .code yX3_addSign cX3_addSign 3 none :: ([.fieldLink RX3 17 "StopSetter$Tape" "length" "I", .fieldLink RX3 9 "StopSetter$Tape" "signs" "[C"] ++ wsX30)
def wsX3_addBytes : List Cond := .code yX3_addBytes cX3_addBytes 4 none :: ([.methodLink RX3 13 yX3_addSign, .instanceMethod yX3_addSign, .selects RX3 yX3_addSign yX3_addSign, .initialized RX3, .code yX3_addSign cX3_addSign 3 none, .fieldLink RX3 17 "StopSetter$Tape" "length" "I", .fieldLink RX3 9 "StopSetter$Tape" "signs" "[C"] ++ wsX30)
def wsX3_empty : List Cond := .code yX3_empty cX3_empty 1 none :: ([.fieldLink RX3 17 "StopSetter$Tape" "length" "I"] ++ wsX30)
def wsX4_init_r1 : List Cond := [Cond.methodLink RX4 1 objectInit, Cond.instanceMethod objectInit, Cond.code objectInit ⟨#[0xb1]⟩ 1 none, Cond.arrayClass .int, Cond.fieldLink RX4 9 "StopSetter" "kindsOf" "[I", Cond.arrayClass .boolean, Cond.fieldLink RX4 13 "StopSetter" "isName" "[Z", Cond.fieldLink RX4 17 "StopSetter" "row" "[I", Cond.fieldLink RX4 20 "StopSetter" "marks" "[I", Cond.classLink RX4 23 RX3, Cond.instantiable RX3 2, Cond.initialized RX3, Cond.fieldLink RX4 26 "StopSetter" "tape" "LStopSetter$Tape;", Cond.classLink RX4 30 RX2, Cond.instantiable RX2 5, Cond.initialized RX2, Cond.fieldLink RX4 35 "StopSetter" "reader" "LStopSetter$Reader;", Cond.classLink RX4 39 RX1, Cond.instantiable RX1 11, Cond.initialized RX1, Cond.fieldLink RX4 42 "StopSetter" "lines" "LStopSetter$Grammar;", Cond.fieldLink RX4 46 "StopSetter" "draft" "LStopSetter$Grammar;", Cond.classLink RX4 49 RX0, Cond.instantiable RX0 12]
def wsX4_init_r2 : List Cond := [Cond.initialized RX0, Cond.fieldLink RX4 52 "StopSetter" "chart" "LStopSetter$Chart;", Cond.instanceMethod yX3_init, Cond.code yX3_init cX3_init 1 none, Cond.methodLink RX3 1 objectInit, Cond.arrayClass .char, Cond.fieldLink RX3 9 "StopSetter$Tape" "signs" "[C", Cond.methodLink RX4 32 yX2_init, Cond.instanceMethod yX2_init, Cond.code yX2_init cX2_init 2 none, Cond.methodLink RX2 3 objectInit, Cond.fieldLink RX2 9 "StopSetter$Reader" "tape" "LStopSetter$Tape;", Cond.instanceMethod yX1_init, Cond.code yX1_init cX1_init 1 none, Cond.methodLink RX1 3 objectInit, Cond.fieldLink RX1 11 "StopSetter$Grammar" "goFrom" "[I", Cond.fieldLink RX1 15 "StopSetter$Grammar" "goKind" "[I", Cond.fieldLink RX1 18 "StopSetter$Grammar" "goTo" "[I", Cond.fieldLink RX1 21 "StopSetter$Grammar" "goCost" "[I", Cond.fieldLink RX1 24 "StopSetter$Grammar" "goMark" "[I", Cond.fieldLink RX1 27 "StopSetter$Grammar" "endFrom" "[I", Cond.fieldLink RX1 30 "StopSetter$Grammar" "endCost" "[I", Cond.fieldLink RX1 33 "StopSetter$Grammar" "endMark" "[I", Cond.fieldLink RX1 38 "StopSetter$Grammar" "hopeful" "[Z"]
def wsX4_init_r3 : List Cond := [Cond.methodLink RX4 51 yX0_init, Cond.instanceMethod yX0_init, Cond.code yX0_init cX0_init 1 none, Cond.methodLink RX0 5 objectInit, Cond.fieldLink RX0 11 "StopSetter$Chart" "best" "[I", Cond.fieldLink RX0 15 "StopSetter$Chart" "next" "[I", Cond.fieldLink RX0 18 "StopSetter$Chart" "rank" "[I", Cond.fieldLink RX0 21 "StopSetter$Chart" "nodeAhead" "[I", Cond.fieldLink RX0 24 "StopSetter$Chart" "endUsed" "[I", Cond.fieldLink RX0 27 "StopSetter$Chart" "goUsed" "[I", Cond.fieldLink RX0 30 "StopSetter$Chart" "order" "[I", Cond.constant RX0 33 (1000000000), Cond.fieldLink RX0 34 "StopSetter$Chart" "leastCost" "I", Cond.fieldLink RX0 38 "StopSetter$Chart" "secondCost" "I", Cond.methodLink RX0 41 yJ7_fill_53178, Cond.static yJ7_fill_53178, Cond.initialized RJ7, Cond.code yJ7_fill_53178 cJ7_fill_53178 4 none, Cond.methodLink RX4 56 yJ7_fill_53178]
def wsX4_init : List Cond := .code yX4_init cX4_init 1 none :: ((wsX4_init_r1 ++ (wsX4_init_r2 ++ wsX4_init_r3)) ++ wsX40 ++ wsX30 ++ wsX20 ++ wsX10 ++ wsX00)
def wsX4_isWord : List Cond := .code yX4_isWord cX4_isWord 1 (some .boolean) :: ([])
def wsX4_hasPlace : List Cond := .code yX4_hasPlace cX4_hasPlace 2 (some .boolean) :: ([.fieldLink RX4 74 "StopSetter" "size" "I"] ++ wsX40)
def wsX4_wordAt : List Cond := .code yX4_wordAt cX4_wordAt 2 (some .int) :: ([.fieldLink RX4 17 "StopSetter" "row" "[I", .methodLink RX4 78 yX4_hasPlace, .instanceMethod yX4_hasPlace, .selects RX4 yX4_hasPlace yX4_hasPlace, .initialized RX4, .code yX4_hasPlace cX4_hasPlace 2 (some .boolean), .fieldLink RX4 74 "StopSetter" "size" "I"] ++ wsX40)
def wsX4_firstPlaceOf : List Cond := .code yX4_firstPlaceOf cX4_firstPlaceOf 3 (some .int) :: ([.fieldLink RX4 74 "StopSetter" "size" "I", .methodLink RX4 180 yX4_wordAt, .instanceMethod yX4_wordAt, .selects RX4 yX4_wordAt yX4_wordAt, .initialized RX4, .code yX4_wordAt cX4_wordAt 2 (some .int), .fieldLink RX4 17 "StopSetter" "row" "[I", .methodLink RX4 78 yX4_hasPlace, .instanceMethod yX4_hasPlace, .selects RX4 yX4_hasPlace yX4_hasPlace, .code yX4_hasPlace cX4_hasPlace 2 (some .boolean)] ++ wsX40)
def wsX4_kinds_r1 : List Cond := [Cond.fieldLink RX4 9 "StopSetter" "kindsOf" "[I", Cond.fieldLink RX4 52 "StopSetter" "chart" "LStopSetter$Chart;", Cond.methodLink RX4 62 yX4_isWord, Cond.static yX4_isWord, Cond.initialized RX4, Cond.code yX4_isWord cX4_isWord 1 (some .boolean), Cond.methodLink RX4 66 yX4_firstPlaceOf, Cond.instanceMethod yX4_firstPlaceOf, Cond.selects RX4 yX4_firstPlaceOf yX4_firstPlaceOf, Cond.code yX4_firstPlaceOf cX4_firstPlaceOf 3 (some .int), Cond.fieldLink RX4 74 "StopSetter" "size" "I", Cond.methodLink RX4 180 yX4_wordAt, Cond.instanceMethod yX4_wordAt, Cond.selects RX4 yX4_wordAt yX4_wordAt, Cond.code yX4_wordAt cX4_wordAt 2 (some .int), Cond.fieldLink RX4 17 "StopSetter" "row" "[I", Cond.methodLink RX4 78 yX4_hasPlace, Cond.instanceMethod yX4_hasPlace, Cond.selects RX4 yX4_hasPlace yX4_hasPlace, Cond.code yX4_hasPlace cX4_hasPlace 2 (some .boolean), Cond.methodLink RX4 70 yX0_keep, Cond.instanceMethod yX0_keep, Cond.selects RX0 yX0_keep yX0_keep, Cond.initialized RX0]
def wsX4_kinds_r2 : List Cond := [Cond.code yX0_keep cX0_keep 2 none, Cond.fieldLink RX0 47 "StopSetter$Chart" "ready" "I"]
def wsX4_kinds : List Cond := .code yX4_kinds cX4_kinds 3 (some .boolean) :: ((wsX4_kinds_r1 ++ wsX4_kinds_r2) ++ wsX40 ++ wsX00)
def wsX4_name : List Cond := .code yX4_name cX4_name 3 (some .boolean) :: ([.fieldLink RX4 13 "StopSetter" "isName" "[Z", .methodLink RX4 62 yX4_isWord, .static yX4_isWord, .initialized RX4, .code yX4_isWord cX4_isWord 1 (some .boolean)] ++ wsX40)
def wsX4_word : List Cond := .code yX4_word cX4_word 2 (some .int) :: ([.fieldLink RX4 74 "StopSetter" "size" "I", .fieldLink RX4 17 "StopSetter" "row" "[I", .fieldLink RX4 20 "StopSetter" "marks" "[I", .methodLink RX4 62 yX4_isWord, .static yX4_isWord, .initialized RX4, .code yX4_isWord cX4_isWord 1 (some .boolean)] ++ wsX40)
def wsX4_drop : List Cond := .code yX4_drop cX4_drop 1 (some .int) :: ([.fieldLink RX4 74 "StopSetter" "size" "I", .fieldLink RX4 52 "StopSetter" "chart" "LStopSetter$Chart;", .methodLink RX4 70 yX0_keep, .instanceMethod yX0_keep, .selects RX0 yX0_keep yX0_keep, .initialized RX0, .code yX0_keep cX0_keep 2 none, .fieldLink RX0 47 "StopSetter$Chart" "ready" "I"] ++ wsX40 ++ wsX00)
def wsX4_hand : List Cond := .code yX4_hand cX4_hand 3 (some .boolean) :: ([.fieldLink RX4 20 "StopSetter" "marks" "[I", .fieldLink RX4 52 "StopSetter" "chart" "LStopSetter$Chart;", .methodLink RX4 78 yX4_hasPlace, .instanceMethod yX4_hasPlace, .selects RX4 yX4_hasPlace yX4_hasPlace, .initialized RX4, .code yX4_hasPlace cX4_hasPlace 2 (some .boolean), .fieldLink RX4 74 "StopSetter" "size" "I", .methodLink RX4 70 yX0_keep, .instanceMethod yX0_keep, .selects RX0 yX0_keep yX0_keep, .initialized RX0, .code yX0_keep cX0_keep 2 none, .fieldLink RX0 47 "StopSetter$Chart" "ready" "I"] ++ wsX40 ++ wsX00)
def wsX4_feed : List Cond := .code yX4_feed cX4_feed 7 (some .int) :: ([.fieldLink RX4 26 "StopSetter" "tape" "LStopSetter$Tape;", .methodLink RX4 81 yX3_addBytes, .instanceMethod yX3_addBytes, .selects RX3 yX3_addBytes yX3_addBytes, .initialized RX3, .code yX3_addBytes cX3_addBytes 4 none, .methodLink RX3 13 yX3_addSign, .instanceMethod yX3_addSign, .selects RX3 yX3_addSign yX3_addSign, .code yX3_addSign cX3_addSign 3 none, .fieldLink RX3 17 "StopSetter$Tape" "length" "I", .fieldLink RX3 9 "StopSetter$Tape" "signs" "[C"] ++ wsX40 ++ wsX30)
def wsX4_grammar_r1 : List Cond := [Cond.fieldLink RX4 35 "StopSetter" "reader" "LStopSetter$Reader;", Cond.fieldLink RX4 46 "StopSetter" "draft" "LStopSetter$Grammar;", Cond.fieldLink RX4 26 "StopSetter" "tape" "LStopSetter$Tape;", Cond.fieldLink RX4 42 "StopSetter" "lines" "LStopSetter$Grammar;", Cond.fieldLink RX4 52 "StopSetter" "chart" "LStopSetter$Chart;", Cond.methodLink RX4 88 yX2_read, Cond.instanceMethod yX2_read, Cond.selects RX2 yX2_read yX2_read, Cond.initialized RX2, Cond.code yX2_read cX2_read 3 (some .int), Cond.fieldLink RX2 20 "StopSetter$Reader" "fault" "I", Cond.fieldLink RX2 24 "StopSetter$Reader" "behind" "I", Cond.fieldLink RX2 32 "StopSetter$Reader" "sort" "I", Cond.methodLink RX2 15 yX1_empty, Cond.instanceMethod yX1_empty, Cond.selects RX1 yX1_empty yX1_empty, Cond.initialized RX1, Cond.code yX1_empty cX1_empty 1 none, Cond.fieldLink RX1 42 "StopSetter$Grammar" "goCount" "I", Cond.fieldLink RX1 46 "StopSetter$Grammar" "endCount" "I", Cond.methodLink RX2 27 yX2_advance, Cond.instanceMethod yX2_advance, Cond.selects RX2 yX2_advance yX2_advance, Cond.code yX2_advance cX2_advance 2 none]
def wsX4_grammar_r2 : List Cond := [Cond.fieldLink RX2 106 "StopSetter$Reader" "place" "I", Cond.fieldLink RX2 9 "StopSetter$Reader" "tape" "LStopSetter$Tape;", Cond.methodLink RX2 109 yX2_runEnd, Cond.instanceMethod yX2_runEnd, Cond.selects RX2 yX2_runEnd yX2_runEnd, Cond.code yX2_runEnd cX2_runEnd 4 (some .int), Cond.methodLink RX2 113 yX3_signAt, Cond.instanceMethod yX3_signAt, Cond.selects RX3 yX3_signAt yX3_signAt, Cond.initialized RX3, Cond.code yX3_signAt cX3_signAt 2 (some .int), Cond.fieldLink RX3 17 "StopSetter$Tape" "length" "I", Cond.fieldLink RX3 9 "StopSetter$Tape" "signs" "[C", Cond.methodLink RX2 116 yX2_sortOf, Cond.static yX2_sortOf, Cond.code yX2_sortOf cX2_sortOf 1 (some .int), Cond.methodLink RX2 37 yX2_isText, Cond.instanceMethod yX2_isText, Cond.selects RX2 yX2_isText yX2_isText, Cond.code yX2_isText cX2_isText 3 (some .boolean), Cond.methodLink RX2 122 yJ0_length_8abf5, Cond.instanceMethod yJ0_length_8abf5, Cond.selects RJ0 yJ0_length_8abf5 yJ0_length_8abf5, Cond.initialized RJ0]
def wsX4_grammar_r3 : List Cond := [Cond.code yJ0_length_8abf5 cJ0_length_8abf5 1 (some .int), Cond.fieldLink RJ0 9 "java/lang/String" "value" "[B", Cond.methodLink RJ0 335 yJ0_coder_7d493, Cond.instanceMethod yJ0_coder_7d493, Cond.selects RJ0 yJ0_coder_7d493 yJ0_coder_7d493, Cond.code yJ0_coder_7d493 cJ0_coder_7d493 1 (some .byte), Cond.fieldLink RJ0 38 "java/lang/String" "COMPACT_STRINGS" "Z", Cond.fieldLink RJ0 15 "java/lang/String" "coder" "B", Cond.methodLink RX2 126 yJ0_charAt_5068e, Cond.instanceMethod yJ0_charAt_5068e, Cond.selects RJ0 yJ0_charAt_5068e yJ0_charAt_5068e, Cond.code yJ0_charAt_5068e cJ0_charAt_5068e 2 (some .char), Cond.methodLink RJ0 492 yJ0_isLatin1_aae02, Cond.instanceMethod yJ0_isLatin1_aae02, Cond.selects RJ0 yJ0_isLatin1_aae02 yJ0_isLatin1_aae02, Cond.code yJ0_isLatin1_aae02 cJ0_isLatin1_aae02 1 (some .boolean), Cond.methodLink RJ0 495 yJ1_charAt_3b067, Cond.static yJ1_charAt_3b067, Cond.initialized RJ1, Cond.code yJ1_charAt_3b067 cJ1_charAt_3b067 2 (some .char), Cond.methodLink RJ1 9 yJ0_checkIndex_df160, Cond.static yJ0_checkIndex_df160, Cond.code yJ0_checkIndex_df160 cJ0_checkIndex_df160 2 none, Cond.fieldLink RJ0 1053 "jdk/internal/util/Preconditions" "SIOOBE_FORMATTER" "Ljava/util/function/BiFunction;"]
def wsX4_grammar_r4 : List Cond := [Cond.methodLink RJ0 1059 yJ3_checkIndex_8e157, Cond.static yJ3_checkIndex_8e157, Cond.initialized RJ3, Cond.code yJ3_checkIndex_8e157 cJ3_checkIndex_8e157 3 (some .int), Cond.methodLink RJ0 498 yJ2_charAt_3b067, Cond.static yJ2_charAt_3b067, Cond.initialized RJ2, Cond.code yJ2_charAt_3b067 cJ2_charAt_3b067 2 (some .char), Cond.methodLink RJ2 67 yJ2_checkIndex_2214a, Cond.static yJ2_checkIndex_2214a, Cond.code yJ2_checkIndex_2214a cJ2_checkIndex_2214a 2 none, Cond.methodLink RJ2 48 yJ2_length_9d52b, Cond.static yJ2_length_9d52b, Cond.code yJ2_length_9d52b cJ2_length_9d52b 1 (some .int), Cond.methodLink RJ2 414 yJ0_checkIndex_df160, Cond.methodLink RJ2 71 yJ2_getChar_3b067, Cond.static yJ2_getChar_3b067, Cond.code yJ2_getChar_3b067 cJ2_getChar_3b067 2 (some .char), Cond.fieldLink RJ2 44 "java/lang/StringUTF16" "$assertionsDisabled" "Z", Cond.fieldLink RJ2 59 "java/lang/StringUTF16" "HI_BYTE_SHIFT" "I", Cond.fieldLink RJ2 63 "java/lang/StringUTF16" "LO_BYTE_SHIFT" "I", Cond.methodLink RX2 41 yX2_readGo, Cond.instanceMethod yX2_readGo, Cond.selects RX2 yX2_readGo yX2_readGo]
def wsX4_grammar_r5 : List Cond := [Cond.code yX2_readGo cX2_readGo 7 none, Cond.methodLink RX2 50 yX2_refuse, Cond.instanceMethod yX2_refuse, Cond.selects RX2 yX2_refuse yX2_refuse, Cond.code yX2_refuse cX2_refuse 2 none, Cond.methodLink RX2 57 yX2_readNumber, Cond.instanceMethod yX2_readNumber, Cond.selects RX2 yX2_readNumber yX2_readNumber, Cond.code yX2_readNumber cX2_readNumber 3 (some .int), Cond.methodLink RX2 103 yX2_numberHere, Cond.instanceMethod yX2_numberHere, Cond.selects RX2 yX2_numberHere yX2_numberHere, Cond.code yX2_numberHere cX2_numberHere 3 (some .int), Cond.methodLink RX2 63 yX2_passIf, Cond.instanceMethod yX2_passIf, Cond.selects RX2 yX2_passIf yX2_passIf, Cond.code yX2_passIf cX2_passIf 2 none, Cond.methodLink RX2 73 yX2_goMarkHere, Cond.instanceMethod yX2_goMarkHere, Cond.selects RX2 yX2_goMarkHere yX2_goMarkHere, Cond.code yX2_goMarkHere cX2_goMarkHere 1 (some .int), Cond.methodLink RX2 77 yX1_addGo, Cond.instanceMethod yX1_addGo, Cond.selects RX1 yX1_addGo yX1_addGo]
def wsX4_grammar_r6 : List Cond := [Cond.code yX1_addGo cX1_addGo 6 none, Cond.fieldLink RX1 11 "StopSetter$Grammar" "goFrom" "[I", Cond.fieldLink RX1 15 "StopSetter$Grammar" "goKind" "[I", Cond.fieldLink RX1 18 "StopSetter$Grammar" "goTo" "[I", Cond.fieldLink RX1 21 "StopSetter$Grammar" "goCost" "[I", Cond.fieldLink RX1 24 "StopSetter$Grammar" "goMark" "[I", Cond.methodLink RX2 47 yX2_readEnd, Cond.instanceMethod yX2_readEnd, Cond.selects RX2 yX2_readEnd yX2_readEnd, Cond.code yX2_readEnd cX2_readEnd 5 none, Cond.methodLink RX2 84 yX2_endMarkHere, Cond.instanceMethod yX2_endMarkHere, Cond.selects RX2 yX2_endMarkHere yX2_endMarkHere, Cond.code yX2_endMarkHere cX2_endMarkHere 1 (some .int), Cond.methodLink RX2 87 yX1_addEnd, Cond.instanceMethod yX1_addEnd, Cond.selects RX1 yX1_addEnd yX1_addEnd, Cond.code yX1_addEnd cX1_addEnd 4 none, Cond.fieldLink RX1 27 "StopSetter$Grammar" "endFrom" "[I", Cond.fieldLink RX1 30 "StopSetter$Grammar" "endCost" "[I", Cond.fieldLink RX1 33 "StopSetter$Grammar" "endMark" "[I", Cond.methodLink RX4 92 yX3_empty, Cond.instanceMethod yX3_empty, Cond.selects RX3 yX3_empty yX3_empty]
def wsX4_grammar_r7 : List Cond := [Cond.code yX3_empty cX3_empty 1 none, Cond.methodLink RX4 95 yX1_findHopeful, Cond.instanceMethod yX1_findHopeful, Cond.selects RX1 yX1_findHopeful yX1_findHopeful, Cond.code yX1_findHopeful cX1_findHopeful 3 none, Cond.fieldLink RX1 38 "StopSetter$Grammar" "hopeful" "[Z", Cond.methodLink RX1 53 yX1_hasEnd, Cond.instanceMethod yX1_hasEnd, Cond.selects RX1 yX1_hasEnd yX1_hasEnd, Cond.code yX1_hasEnd cX1_hasEnd 2 (some .boolean), Cond.static yX4_nodeOf, Cond.initialized RX4, Cond.code yX4_nodeOf cX4_nodeOf 2 (some .int), Cond.methodLink RX1 60 yX1_setHopeful, Cond.instanceMethod yX1_setHopeful, Cond.selects RX1 yX1_setHopeful yX1_setHopeful, Cond.code yX1_setHopeful cX1_setHopeful 2 none, Cond.methodLink RX1 64 yX1_passHopeBack, Cond.instanceMethod yX1_passHopeBack, Cond.selects RX1 yX1_passHopeBack yX1_passHopeBack, Cond.code yX1_passHopeBack cX1_passHopeBack 3 none, Cond.methodLink RX1 49 yX1_hasGo, Cond.instanceMethod yX1_hasGo, Cond.selects RX1 yX1_hasGo yX1_hasGo]
def wsX4_grammar_r8 : List Cond := [Cond.code yX1_hasGo cX1_hasGo 2 (some .boolean), Cond.methodLink RX1 68 yX1_nodeBehind, Cond.instanceMethod yX1_nodeBehind, Cond.selects RX1 yX1_nodeBehind yX1_nodeBehind, Cond.code yX1_nodeBehind cX1_nodeBehind 3 (some .int), Cond.methodLink RX1 71 yX1_isHopeful, Cond.instanceMethod yX1_isHopeful, Cond.selects RX1 yX1_isHopeful yX1_isHopeful, Cond.code yX1_isHopeful cX1_isHopeful 2 (some .boolean), Cond.methodLink RX4 70 yX0_keep, Cond.instanceMethod yX0_keep, Cond.selects RX0 yX0_keep yX0_keep, Cond.initialized RX0, Cond.code yX0_keep cX0_keep 2 none, Cond.fieldLink RX0 47 "StopSetter$Chart" "ready" "I"]
def wsX4_grammar : List Cond := .code yX4_grammar cX4_grammar 3 (some .int) :: ((wsX4_grammar_r1 ++ (wsX4_grammar_r2 ++ (wsX4_grammar_r3 ++ (wsX4_grammar_r4 ++ (wsX4_grammar_r5 ++ (wsX4_grammar_r6 ++ (wsX4_grammar_r7 ++ wsX4_grammar_r8))))))) ++ wsX40 ++ wsX20 ++ wsX10 ++ wsX30 ++ wsX00)
def wsX4_solve_r1 : List Cond := [Cond.fieldLink RX4 52 "StopSetter" "chart" "LStopSetter$Chart;", Cond.fieldLink RX4 74 "StopSetter" "size" "I", Cond.fieldLink RX4 42 "StopSetter" "lines" "LStopSetter$Grammar;", Cond.fieldLink RX4 9 "StopSetter" "kindsOf" "[I", Cond.fieldLink RX4 20 "StopSetter" "marks" "[I", Cond.methodLink RX4 180 yX4_wordAt, Cond.instanceMethod yX4_wordAt, Cond.selects RX4 yX4_wordAt yX4_wordAt, Cond.initialized RX4, Cond.code yX4_wordAt cX4_wordAt 2 (some .int), Cond.fieldLink RX4 17 "StopSetter" "row" "[I", Cond.methodLink RX4 78 yX4_hasPlace, Cond.instanceMethod yX4_hasPlace, Cond.selects RX4 yX4_hasPlace yX4_hasPlace, Cond.code yX4_hasPlace cX4_hasPlace 2 (some .boolean), Cond.methodLink RX4 62 yX4_isWord, Cond.static yX4_isWord, Cond.code yX4_isWord cX4_isWord 1 (some .boolean), Cond.methodLink RX4 186 yX0_extend, Cond.instanceMethod yX0_extend, Cond.selects RX0 yX0_extend yX0_extend, Cond.initialized RX0, Cond.code yX0_extend cX0_extend 5 none, Cond.fieldLink RX0 47 "StopSetter$Chart" "ready" "I"]
def wsX4_solve_r2 : List Cond := [Cond.fieldLink RX0 11 "StopSetter$Chart" "best" "[I", Cond.constant RX0 33 (1000000000), Cond.fieldLink RX0 15 "StopSetter$Chart" "next" "[I", Cond.methodLink RX0 50 yX0_cell, Cond.static yX0_cell, Cond.code yX0_cell cX0_cell 3 (some .int), Cond.methodLink RX0 54 yX0_isReached, Cond.instanceMethod yX0_isReached, Cond.selects RX0 yX0_isReached yX0_isReached, Cond.code yX0_isReached cX0_isReached 2 (some .boolean), Cond.methodLink RX0 58 yX0_stepFrom, Cond.instanceMethod yX0_stepFrom, Cond.selects RX0 yX0_stepFrom yX0_stepFrom, Cond.code yX0_stepFrom cX0_stepFrom 7 none, Cond.methodLink RX0 65 yX0_goFrom, Cond.instanceMethod yX0_goFrom, Cond.selects RX0 yX0_goFrom yX0_goFrom, Cond.code yX0_goFrom cX0_goFrom 10 none, Cond.static yX4_stateOf, Cond.code yX4_stateOf cX4_stateOf 1 (some .int), Cond.methodLink RX0 88 yX1_canGo, Cond.instanceMethod yX1_canGo, Cond.selects RX1 yX1_canGo yX1_canGo, Cond.initialized RX1]
def wsX4_solve_r3 : List Cond := [Cond.code yX1_canGo cX1_canGo 5 (some .boolean), Cond.fieldLink RX1 11 "StopSetter$Grammar" "goFrom" "[I", Cond.fieldLink RX1 15 "StopSetter$Grammar" "goKind" "[I", Cond.fieldLink RX1 24 "StopSetter$Grammar" "goMark" "[I", Cond.methodLink RX1 49 yX1_hasGo, Cond.instanceMethod yX1_hasGo, Cond.selects RX1 yX1_hasGo yX1_hasGo, Cond.code yX1_hasGo cX1_hasGo 2 (some .boolean), Cond.fieldLink RX1 42 "StopSetter$Grammar" "goCount" "I", Cond.static yX4_quotesOf, Cond.code yX4_quotesOf cX4_quotesOf 1 (some .int), Cond.methodLink RX0 92 yX1_nodeBehind, Cond.instanceMethod yX1_nodeBehind, Cond.selects RX1 yX1_nodeBehind yX1_nodeBehind, Cond.code yX1_nodeBehind cX1_nodeBehind 3 (some .int), Cond.fieldLink RX1 18 "StopSetter$Grammar" "goTo" "[I", Cond.static yX4_nodeOf, Cond.code yX4_nodeOf cX4_nodeOf 2 (some .int), Cond.methodLink RX0 95 yX1_costOfEnd, Cond.instanceMethod yX1_costOfEnd, Cond.selects RX1 yX1_costOfEnd yX1_costOfEnd, Cond.code yX1_costOfEnd cX1_costOfEnd 2 (some .int), Cond.fieldLink RX1 30 "StopSetter$Grammar" "endCost" "[I", Cond.methodLink RX1 53 yX1_hasEnd]
def wsX4_solve_r4 : List Cond := [Cond.instanceMethod yX1_hasEnd, Cond.selects RX1 yX1_hasEnd yX1_hasEnd, Cond.code yX1_hasEnd cX1_hasEnd 2 (some .boolean), Cond.fieldLink RX1 46 "StopSetter$Grammar" "endCount" "I", Cond.methodLink RX0 101 yX0_offer, Cond.instanceMethod yX0_offer, Cond.selects RX0 yX0_offer yX0_offer, Cond.code yX0_offer cX0_offer 10 none, Cond.fieldLink RX0 18 "StopSetter$Chart" "rank" "[I", Cond.fieldLink RX0 30 "StopSetter$Chart" "order" "[I", Cond.fieldLink RX0 21 "StopSetter$Chart" "nodeAhead" "[I", Cond.fieldLink RX0 24 "StopSetter$Chart" "endUsed" "[I", Cond.fieldLink RX0 27 "StopSetter$Chart" "goUsed" "[I", Cond.methodLink RX0 105 Lib.Math.min.name, Cond.static Lib.Math.min.name, Cond.initialized "java/lang/Math", Cond.code Lib.Math.min.name Lib.Math.min.code 2 (some .int), Cond.methodLink RX0 81 yX1_canEnd, Cond.instanceMethod yX1_canEnd, Cond.selects RX1 yX1_canEnd yX1_canEnd, Cond.code yX1_canEnd cX1_canEnd 4 (some .boolean), Cond.fieldLink RX1 27 "StopSetter$Grammar" "endFrom" "[I", Cond.fieldLink RX1 33 "StopSetter$Grammar" "endMark" "[I", Cond.methodLink RX0 62 yX0_rankLevel]
def wsX4_solve_r5 : List Cond := [Cond.instanceMethod yX0_rankLevel, Cond.selects RX0 yX0_rankLevel yX0_rankLevel, Cond.code yX0_rankLevel cX0_rankLevel 2 none, Cond.methodLink RX0 110 yX0_waysAheadOf, Cond.instanceMethod yX0_waysAheadOf, Cond.selects RX0 yX0_waysAheadOf yX0_waysAheadOf, Cond.code yX0_waysAheadOf cX0_waysAheadOf 4 (some .int), Cond.methodLink RX4 190 yX0_finish, Cond.instanceMethod yX0_finish, Cond.selects RX0 yX0_finish yX0_finish, Cond.code yX0_finish cX0_finish 5 none, Cond.fieldLink RX0 34 "StopSetter$Chart" "leastCost" "I", Cond.fieldLink RX0 38 "StopSetter$Chart" "secondCost" "I", Cond.fieldLink RX0 113 "StopSetter$Chart" "lastNode" "I", Cond.fieldLink RX0 116 "StopSetter$Chart" "lastEnd" "I", Cond.methodLink RX0 122 yX0_offerLast, Cond.instanceMethod yX0_offerLast, Cond.selects RX0 yX0_offerLast yX0_offerLast, Cond.code yX0_offerLast cX0_offerLast 7 none]
def wsX4_solve : List Cond := .code yX4_solve cX4_solve 3 none :: ((wsX4_solve_r1 ++ (wsX4_solve_r2 ++ (wsX4_solve_r3 ++ (wsX4_solve_r4 ++ wsX4_solve_r5)))) ++ wsX40 ++ wsX00 ++ wsX10)
def wsX4_cost_r1 : List Cond := [Cond.fieldLink RX4 52 "StopSetter" "chart" "LStopSetter$Chart;", Cond.methodLink RX4 98 yX4_solve, Cond.instanceMethod yX4_solve, Cond.selects RX4 yX4_solve yX4_solve, Cond.initialized RX4, Cond.code yX4_solve cX4_solve 3 none, Cond.fieldLink RX4 74 "StopSetter" "size" "I", Cond.fieldLink RX4 42 "StopSetter" "lines" "LStopSetter$Grammar;", Cond.fieldLink RX4 9 "StopSetter" "kindsOf" "[I", Cond.fieldLink RX4 20 "StopSetter" "marks" "[I", Cond.methodLink RX4 180 yX4_wordAt, Cond.instanceMethod yX4_wordAt, Cond.selects RX4 yX4_wordAt yX4_wordAt, Cond.code yX4_wordAt cX4_wordAt 2 (some .int), Cond.fieldLink RX4 17 "StopSetter" "row" "[I", Cond.methodLink RX4 78 yX4_hasPlace, Cond.instanceMethod yX4_hasPlace, Cond.selects RX4 yX4_hasPlace yX4_hasPlace, Cond.code yX4_hasPlace cX4_hasPlace 2 (some .boolean), Cond.methodLink RX4 62 yX4_isWord, Cond.static yX4_isWord, Cond.code yX4_isWord cX4_isWord 1 (some .boolean), Cond.methodLink RX4 186 yX0_extend, Cond.instanceMethod yX0_extend]
def wsX4_cost_r2 : List Cond := [Cond.selects RX0 yX0_extend yX0_extend, Cond.initialized RX0, Cond.code yX0_extend cX0_extend 5 none, Cond.fieldLink RX0 47 "StopSetter$Chart" "ready" "I", Cond.fieldLink RX0 11 "StopSetter$Chart" "best" "[I", Cond.constant RX0 33 (1000000000), Cond.fieldLink RX0 15 "StopSetter$Chart" "next" "[I", Cond.methodLink RX0 50 yX0_cell, Cond.static yX0_cell, Cond.code yX0_cell cX0_cell 3 (some .int), Cond.methodLink RX0 54 yX0_isReached, Cond.instanceMethod yX0_isReached, Cond.selects RX0 yX0_isReached yX0_isReached, Cond.code yX0_isReached cX0_isReached 2 (some .boolean), Cond.methodLink RX0 58 yX0_stepFrom, Cond.instanceMethod yX0_stepFrom, Cond.selects RX0 yX0_stepFrom yX0_stepFrom, Cond.code yX0_stepFrom cX0_stepFrom 7 none, Cond.methodLink RX0 65 yX0_goFrom, Cond.instanceMethod yX0_goFrom, Cond.selects RX0 yX0_goFrom yX0_goFrom, Cond.code yX0_goFrom cX0_goFrom 10 none, Cond.static yX4_stateOf, Cond.code yX4_stateOf cX4_stateOf 1 (some .int)]
def wsX4_cost_r3 : List Cond := [Cond.methodLink RX0 88 yX1_canGo, Cond.instanceMethod yX1_canGo, Cond.selects RX1 yX1_canGo yX1_canGo, Cond.initialized RX1, Cond.code yX1_canGo cX1_canGo 5 (some .boolean), Cond.fieldLink RX1 11 "StopSetter$Grammar" "goFrom" "[I", Cond.fieldLink RX1 15 "StopSetter$Grammar" "goKind" "[I", Cond.fieldLink RX1 24 "StopSetter$Grammar" "goMark" "[I", Cond.methodLink RX1 49 yX1_hasGo, Cond.instanceMethod yX1_hasGo, Cond.selects RX1 yX1_hasGo yX1_hasGo, Cond.code yX1_hasGo cX1_hasGo 2 (some .boolean), Cond.fieldLink RX1 42 "StopSetter$Grammar" "goCount" "I", Cond.static yX4_quotesOf, Cond.code yX4_quotesOf cX4_quotesOf 1 (some .int), Cond.methodLink RX0 92 yX1_nodeBehind, Cond.instanceMethod yX1_nodeBehind, Cond.selects RX1 yX1_nodeBehind yX1_nodeBehind, Cond.code yX1_nodeBehind cX1_nodeBehind 3 (some .int), Cond.fieldLink RX1 18 "StopSetter$Grammar" "goTo" "[I", Cond.static yX4_nodeOf, Cond.code yX4_nodeOf cX4_nodeOf 2 (some .int), Cond.methodLink RX0 95 yX1_costOfEnd, Cond.instanceMethod yX1_costOfEnd]
def wsX4_cost_r4 : List Cond := [Cond.selects RX1 yX1_costOfEnd yX1_costOfEnd, Cond.code yX1_costOfEnd cX1_costOfEnd 2 (some .int), Cond.fieldLink RX1 30 "StopSetter$Grammar" "endCost" "[I", Cond.methodLink RX1 53 yX1_hasEnd, Cond.instanceMethod yX1_hasEnd, Cond.selects RX1 yX1_hasEnd yX1_hasEnd, Cond.code yX1_hasEnd cX1_hasEnd 2 (some .boolean), Cond.fieldLink RX1 46 "StopSetter$Grammar" "endCount" "I", Cond.methodLink RX0 101 yX0_offer, Cond.instanceMethod yX0_offer, Cond.selects RX0 yX0_offer yX0_offer, Cond.code yX0_offer cX0_offer 10 none, Cond.fieldLink RX0 18 "StopSetter$Chart" "rank" "[I", Cond.fieldLink RX0 30 "StopSetter$Chart" "order" "[I", Cond.fieldLink RX0 21 "StopSetter$Chart" "nodeAhead" "[I", Cond.fieldLink RX0 24 "StopSetter$Chart" "endUsed" "[I", Cond.fieldLink RX0 27 "StopSetter$Chart" "goUsed" "[I", Cond.methodLink RX0 105 Lib.Math.min.name, Cond.static Lib.Math.min.name, Cond.initialized "java/lang/Math", Cond.code Lib.Math.min.name Lib.Math.min.code 2 (some .int), Cond.methodLink RX0 81 yX1_canEnd, Cond.instanceMethod yX1_canEnd, Cond.selects RX1 yX1_canEnd yX1_canEnd]
def wsX4_cost_r5 : List Cond := [Cond.code yX1_canEnd cX1_canEnd 4 (some .boolean), Cond.fieldLink RX1 27 "StopSetter$Grammar" "endFrom" "[I", Cond.fieldLink RX1 33 "StopSetter$Grammar" "endMark" "[I", Cond.methodLink RX0 62 yX0_rankLevel, Cond.instanceMethod yX0_rankLevel, Cond.selects RX0 yX0_rankLevel yX0_rankLevel, Cond.code yX0_rankLevel cX0_rankLevel 2 none, Cond.methodLink RX0 110 yX0_waysAheadOf, Cond.instanceMethod yX0_waysAheadOf, Cond.selects RX0 yX0_waysAheadOf yX0_waysAheadOf, Cond.code yX0_waysAheadOf cX0_waysAheadOf 4 (some .int), Cond.methodLink RX4 190 yX0_finish, Cond.instanceMethod yX0_finish, Cond.selects RX0 yX0_finish yX0_finish, Cond.code yX0_finish cX0_finish 5 none, Cond.fieldLink RX0 34 "StopSetter$Chart" "leastCost" "I", Cond.fieldLink RX0 38 "StopSetter$Chart" "secondCost" "I", Cond.fieldLink RX0 113 "StopSetter$Chart" "lastNode" "I", Cond.fieldLink RX0 116 "StopSetter$Chart" "lastEnd" "I", Cond.methodLink RX0 122 yX0_offerLast, Cond.instanceMethod yX0_offerLast, Cond.selects RX0 yX0_offerLast yX0_offerLast, Cond.code yX0_offerLast cX0_offerLast 7 none, Cond.methodLink RX4 101 yX0_isParted]
def wsX4_cost_r6 : List Cond := [Cond.instanceMethod yX0_isParted, Cond.selects RX0 yX0_isParted yX0_isParted, Cond.code yX0_isParted cX0_isParted 1 (some .boolean)]
def wsX4_cost : List Cond := .code yX4_cost cX4_cost 1 (some .int) :: ((wsX4_cost_r1 ++ (wsX4_cost_r2 ++ (wsX4_cost_r3 ++ (wsX4_cost_r4 ++ (wsX4_cost_r5 ++ wsX4_cost_r6))))) ++ wsX40 ++ wsX00 ++ wsX10)
def wsX4_second_r1 : List Cond := [Cond.fieldLink RX4 52 "StopSetter" "chart" "LStopSetter$Chart;", Cond.methodLink RX4 98 yX4_solve, Cond.instanceMethod yX4_solve, Cond.selects RX4 yX4_solve yX4_solve, Cond.initialized RX4, Cond.code yX4_solve cX4_solve 3 none, Cond.fieldLink RX4 74 "StopSetter" "size" "I", Cond.fieldLink RX4 42 "StopSetter" "lines" "LStopSetter$Grammar;", Cond.fieldLink RX4 9 "StopSetter" "kindsOf" "[I", Cond.fieldLink RX4 20 "StopSetter" "marks" "[I", Cond.methodLink RX4 180 yX4_wordAt, Cond.instanceMethod yX4_wordAt, Cond.selects RX4 yX4_wordAt yX4_wordAt, Cond.code yX4_wordAt cX4_wordAt 2 (some .int), Cond.fieldLink RX4 17 "StopSetter" "row" "[I", Cond.methodLink RX4 78 yX4_hasPlace, Cond.instanceMethod yX4_hasPlace, Cond.selects RX4 yX4_hasPlace yX4_hasPlace, Cond.code yX4_hasPlace cX4_hasPlace 2 (some .boolean), Cond.methodLink RX4 62 yX4_isWord, Cond.static yX4_isWord, Cond.code yX4_isWord cX4_isWord 1 (some .boolean), Cond.methodLink RX4 186 yX0_extend, Cond.instanceMethod yX0_extend]
def wsX4_second_r2 : List Cond := [Cond.selects RX0 yX0_extend yX0_extend, Cond.initialized RX0, Cond.code yX0_extend cX0_extend 5 none, Cond.fieldLink RX0 47 "StopSetter$Chart" "ready" "I", Cond.fieldLink RX0 11 "StopSetter$Chart" "best" "[I", Cond.constant RX0 33 (1000000000), Cond.fieldLink RX0 15 "StopSetter$Chart" "next" "[I", Cond.methodLink RX0 50 yX0_cell, Cond.static yX0_cell, Cond.code yX0_cell cX0_cell 3 (some .int), Cond.methodLink RX0 54 yX0_isReached, Cond.instanceMethod yX0_isReached, Cond.selects RX0 yX0_isReached yX0_isReached, Cond.code yX0_isReached cX0_isReached 2 (some .boolean), Cond.methodLink RX0 58 yX0_stepFrom, Cond.instanceMethod yX0_stepFrom, Cond.selects RX0 yX0_stepFrom yX0_stepFrom, Cond.code yX0_stepFrom cX0_stepFrom 7 none, Cond.methodLink RX0 65 yX0_goFrom, Cond.instanceMethod yX0_goFrom, Cond.selects RX0 yX0_goFrom yX0_goFrom, Cond.code yX0_goFrom cX0_goFrom 10 none, Cond.static yX4_stateOf, Cond.code yX4_stateOf cX4_stateOf 1 (some .int)]
def wsX4_second_r3 : List Cond := [Cond.methodLink RX0 88 yX1_canGo, Cond.instanceMethod yX1_canGo, Cond.selects RX1 yX1_canGo yX1_canGo, Cond.initialized RX1, Cond.code yX1_canGo cX1_canGo 5 (some .boolean), Cond.fieldLink RX1 11 "StopSetter$Grammar" "goFrom" "[I", Cond.fieldLink RX1 15 "StopSetter$Grammar" "goKind" "[I", Cond.fieldLink RX1 24 "StopSetter$Grammar" "goMark" "[I", Cond.methodLink RX1 49 yX1_hasGo, Cond.instanceMethod yX1_hasGo, Cond.selects RX1 yX1_hasGo yX1_hasGo, Cond.code yX1_hasGo cX1_hasGo 2 (some .boolean), Cond.fieldLink RX1 42 "StopSetter$Grammar" "goCount" "I", Cond.static yX4_quotesOf, Cond.code yX4_quotesOf cX4_quotesOf 1 (some .int), Cond.methodLink RX0 92 yX1_nodeBehind, Cond.instanceMethod yX1_nodeBehind, Cond.selects RX1 yX1_nodeBehind yX1_nodeBehind, Cond.code yX1_nodeBehind cX1_nodeBehind 3 (some .int), Cond.fieldLink RX1 18 "StopSetter$Grammar" "goTo" "[I", Cond.static yX4_nodeOf, Cond.code yX4_nodeOf cX4_nodeOf 2 (some .int), Cond.methodLink RX0 95 yX1_costOfEnd, Cond.instanceMethod yX1_costOfEnd]
def wsX4_second_r4 : List Cond := [Cond.selects RX1 yX1_costOfEnd yX1_costOfEnd, Cond.code yX1_costOfEnd cX1_costOfEnd 2 (some .int), Cond.fieldLink RX1 30 "StopSetter$Grammar" "endCost" "[I", Cond.methodLink RX1 53 yX1_hasEnd, Cond.instanceMethod yX1_hasEnd, Cond.selects RX1 yX1_hasEnd yX1_hasEnd, Cond.code yX1_hasEnd cX1_hasEnd 2 (some .boolean), Cond.fieldLink RX1 46 "StopSetter$Grammar" "endCount" "I", Cond.methodLink RX0 101 yX0_offer, Cond.instanceMethod yX0_offer, Cond.selects RX0 yX0_offer yX0_offer, Cond.code yX0_offer cX0_offer 10 none, Cond.fieldLink RX0 18 "StopSetter$Chart" "rank" "[I", Cond.fieldLink RX0 30 "StopSetter$Chart" "order" "[I", Cond.fieldLink RX0 21 "StopSetter$Chart" "nodeAhead" "[I", Cond.fieldLink RX0 24 "StopSetter$Chart" "endUsed" "[I", Cond.fieldLink RX0 27 "StopSetter$Chart" "goUsed" "[I", Cond.methodLink RX0 105 Lib.Math.min.name, Cond.static Lib.Math.min.name, Cond.initialized "java/lang/Math", Cond.code Lib.Math.min.name Lib.Math.min.code 2 (some .int), Cond.methodLink RX0 81 yX1_canEnd, Cond.instanceMethod yX1_canEnd, Cond.selects RX1 yX1_canEnd yX1_canEnd]
def wsX4_second_r5 : List Cond := [Cond.code yX1_canEnd cX1_canEnd 4 (some .boolean), Cond.fieldLink RX1 27 "StopSetter$Grammar" "endFrom" "[I", Cond.fieldLink RX1 33 "StopSetter$Grammar" "endMark" "[I", Cond.methodLink RX0 62 yX0_rankLevel, Cond.instanceMethod yX0_rankLevel, Cond.selects RX0 yX0_rankLevel yX0_rankLevel, Cond.code yX0_rankLevel cX0_rankLevel 2 none, Cond.methodLink RX0 110 yX0_waysAheadOf, Cond.instanceMethod yX0_waysAheadOf, Cond.selects RX0 yX0_waysAheadOf yX0_waysAheadOf, Cond.code yX0_waysAheadOf cX0_waysAheadOf 4 (some .int), Cond.methodLink RX4 190 yX0_finish, Cond.instanceMethod yX0_finish, Cond.selects RX0 yX0_finish yX0_finish, Cond.code yX0_finish cX0_finish 5 none, Cond.fieldLink RX0 34 "StopSetter$Chart" "leastCost" "I", Cond.fieldLink RX0 38 "StopSetter$Chart" "secondCost" "I", Cond.fieldLink RX0 113 "StopSetter$Chart" "lastNode" "I", Cond.fieldLink RX0 116 "StopSetter$Chart" "lastEnd" "I", Cond.methodLink RX0 122 yX0_offerLast, Cond.instanceMethod yX0_offerLast, Cond.selects RX0 yX0_offerLast yX0_offerLast, Cond.code yX0_offerLast cX0_offerLast 7 none, Cond.methodLink RX4 108 yX0_isPartedTwice]
def wsX4_second_r6 : List Cond := [Cond.instanceMethod yX0_isPartedTwice, Cond.selects RX0 yX0_isPartedTwice yX0_isPartedTwice, Cond.code yX0_isPartedTwice cX0_isPartedTwice 1 (some .boolean)]
def wsX4_second : List Cond := .code yX4_second cX4_second 1 (some .int) :: ((wsX4_second_r1 ++ (wsX4_second_r2 ++ (wsX4_second_r3 ++ (wsX4_second_r4 ++ (wsX4_second_r5 ++ wsX4_second_r6))))) ++ wsX40 ++ wsX00 ++ wsX10)
def wsX4_isRaised : List Cond := .code yX4_isRaised cX4_isRaised 6 (some .boolean) :: ([.fieldLink RX4 13 "StopSetter" "isName" "[Z", .methodLink RX4 180 yX4_wordAt, .instanceMethod yX4_wordAt, .selects RX4 yX4_wordAt yX4_wordAt, .initialized RX4, .code yX4_wordAt cX4_wordAt 2 (some .int), .fieldLink RX4 17 "StopSetter" "row" "[I", .methodLink RX4 78 yX4_hasPlace, .instanceMethod yX4_hasPlace, .selects RX4 yX4_hasPlace yX4_hasPlace, .code yX4_hasPlace cX4_hasPlace 2 (some .boolean), .fieldLink RX4 74 "StopSetter" "size" "I", .methodLink RX4 62 yX4_isWord, .static yX4_isWord, .code yX4_isWord cX4_isWord 1 (some .boolean)] ++ wsX40)
def wsX4_look_r1 : List Cond := [Cond.classLink RX4 114 "java/util/NoSuchElementException", Cond.initialized "java/util/NoSuchElementException", Cond.fieldLink RX4 52 "StopSetter" "chart" "LStopSetter$Chart;", Cond.fieldLink RX4 42 "StopSetter" "lines" "LStopSetter$Grammar;", Cond.methodLink RX4 98 yX4_solve, Cond.instanceMethod yX4_solve, Cond.selects RX4 yX4_solve yX4_solve, Cond.initialized RX4, Cond.code yX4_solve cX4_solve 3 none, Cond.fieldLink RX4 74 "StopSetter" "size" "I", Cond.fieldLink RX4 9 "StopSetter" "kindsOf" "[I", Cond.fieldLink RX4 20 "StopSetter" "marks" "[I", Cond.methodLink RX4 180 yX4_wordAt, Cond.instanceMethod yX4_wordAt, Cond.selects RX4 yX4_wordAt yX4_wordAt, Cond.code yX4_wordAt cX4_wordAt 2 (some .int), Cond.fieldLink RX4 17 "StopSetter" "row" "[I", Cond.methodLink RX4 78 yX4_hasPlace, Cond.instanceMethod yX4_hasPlace, Cond.selects RX4 yX4_hasPlace yX4_hasPlace, Cond.code yX4_hasPlace cX4_hasPlace 2 (some .boolean), Cond.methodLink RX4 62 yX4_isWord, Cond.static yX4_isWord, Cond.code yX4_isWord cX4_isWord 1 (some .boolean)]
def wsX4_look_r2 : List Cond := [Cond.methodLink RX4 186 yX0_extend, Cond.instanceMethod yX0_extend, Cond.selects RX0 yX0_extend yX0_extend, Cond.initialized RX0, Cond.code yX0_extend cX0_extend 5 none, Cond.fieldLink RX0 47 "StopSetter$Chart" "ready" "I", Cond.fieldLink RX0 11 "StopSetter$Chart" "best" "[I", Cond.constant RX0 33 (1000000000), Cond.fieldLink RX0 15 "StopSetter$Chart" "next" "[I", Cond.methodLink RX0 50 yX0_cell, Cond.static yX0_cell, Cond.code yX0_cell cX0_cell 3 (some .int), Cond.methodLink RX0 54 yX0_isReached, Cond.instanceMethod yX0_isReached, Cond.selects RX0 yX0_isReached yX0_isReached, Cond.code yX0_isReached cX0_isReached 2 (some .boolean), Cond.methodLink RX0 58 yX0_stepFrom, Cond.instanceMethod yX0_stepFrom, Cond.selects RX0 yX0_stepFrom yX0_stepFrom, Cond.code yX0_stepFrom cX0_stepFrom 7 none, Cond.methodLink RX0 65 yX0_goFrom, Cond.instanceMethod yX0_goFrom, Cond.selects RX0 yX0_goFrom yX0_goFrom, Cond.code yX0_goFrom cX0_goFrom 10 none]
def wsX4_look_r3 : List Cond := [Cond.static yX4_stateOf, Cond.code yX4_stateOf cX4_stateOf 1 (some .int), Cond.methodLink RX0 88 yX1_canGo, Cond.instanceMethod yX1_canGo, Cond.selects RX1 yX1_canGo yX1_canGo, Cond.initialized RX1, Cond.code yX1_canGo cX1_canGo 5 (some .boolean), Cond.fieldLink RX1 11 "StopSetter$Grammar" "goFrom" "[I", Cond.fieldLink RX1 15 "StopSetter$Grammar" "goKind" "[I", Cond.fieldLink RX1 24 "StopSetter$Grammar" "goMark" "[I", Cond.methodLink RX1 49 yX1_hasGo, Cond.instanceMethod yX1_hasGo, Cond.selects RX1 yX1_hasGo yX1_hasGo, Cond.code yX1_hasGo cX1_hasGo 2 (some .boolean), Cond.fieldLink RX1 42 "StopSetter$Grammar" "goCount" "I", Cond.static yX4_quotesOf, Cond.code yX4_quotesOf cX4_quotesOf 1 (some .int), Cond.methodLink RX0 92 yX1_nodeBehind, Cond.instanceMethod yX1_nodeBehind, Cond.selects RX1 yX1_nodeBehind yX1_nodeBehind, Cond.code yX1_nodeBehind cX1_nodeBehind 3 (some .int), Cond.fieldLink RX1 18 "StopSetter$Grammar" "goTo" "[I", Cond.static yX4_nodeOf, Cond.code yX4_nodeOf cX4_nodeOf 2 (some .int)]
def wsX4_look_r4 : List Cond := [Cond.methodLink RX0 95 yX1_costOfEnd, Cond.instanceMethod yX1_costOfEnd, Cond.selects RX1 yX1_costOfEnd yX1_costOfEnd, Cond.code yX1_costOfEnd cX1_costOfEnd 2 (some .int), Cond.fieldLink RX1 30 "StopSetter$Grammar" "endCost" "[I", Cond.methodLink RX1 53 yX1_hasEnd, Cond.instanceMethod yX1_hasEnd, Cond.selects RX1 yX1_hasEnd yX1_hasEnd, Cond.code yX1_hasEnd cX1_hasEnd 2 (some .boolean), Cond.fieldLink RX1 46 "StopSetter$Grammar" "endCount" "I", Cond.methodLink RX0 101 yX0_offer, Cond.instanceMethod yX0_offer, Cond.selects RX0 yX0_offer yX0_offer, Cond.code yX0_offer cX0_offer 10 none, Cond.fieldLink RX0 18 "StopSetter$Chart" "rank" "[I", Cond.fieldLink RX0 30 "StopSetter$Chart" "order" "[I", Cond.fieldLink RX0 21 "StopSetter$Chart" "nodeAhead" "[I", Cond.fieldLink RX0 24 "StopSetter$Chart" "endUsed" "[I", Cond.fieldLink RX0 27 "StopSetter$Chart" "goUsed" "[I", Cond.methodLink RX0 105 Lib.Math.min.name, Cond.static Lib.Math.min.name, Cond.initialized "java/lang/Math", Cond.code Lib.Math.min.name Lib.Math.min.code 2 (some .int), Cond.methodLink RX0 81 yX1_canEnd]
def wsX4_look_r5 : List Cond := [Cond.instanceMethod yX1_canEnd, Cond.selects RX1 yX1_canEnd yX1_canEnd, Cond.code yX1_canEnd cX1_canEnd 4 (some .boolean), Cond.fieldLink RX1 27 "StopSetter$Grammar" "endFrom" "[I", Cond.fieldLink RX1 33 "StopSetter$Grammar" "endMark" "[I", Cond.methodLink RX0 62 yX0_rankLevel, Cond.instanceMethod yX0_rankLevel, Cond.selects RX0 yX0_rankLevel yX0_rankLevel, Cond.code yX0_rankLevel cX0_rankLevel 2 none, Cond.methodLink RX0 110 yX0_waysAheadOf, Cond.instanceMethod yX0_waysAheadOf, Cond.selects RX0 yX0_waysAheadOf yX0_waysAheadOf, Cond.code yX0_waysAheadOf cX0_waysAheadOf 4 (some .int), Cond.methodLink RX4 190 yX0_finish, Cond.instanceMethod yX0_finish, Cond.selects RX0 yX0_finish yX0_finish, Cond.code yX0_finish cX0_finish 5 none, Cond.fieldLink RX0 34 "StopSetter$Chart" "leastCost" "I", Cond.fieldLink RX0 38 "StopSetter$Chart" "secondCost" "I", Cond.fieldLink RX0 113 "StopSetter$Chart" "lastNode" "I", Cond.fieldLink RX0 116 "StopSetter$Chart" "lastEnd" "I", Cond.methodLink RX0 122 yX0_offerLast, Cond.instanceMethod yX0_offerLast, Cond.selects RX0 yX0_offerLast yX0_offerLast]
def wsX4_look_r6 : List Cond := [Cond.code yX0_offerLast cX0_offerLast 7 none, Cond.methodLink RX4 101 yX0_isParted, Cond.instanceMethod yX0_isParted, Cond.selects RX0 yX0_isParted yX0_isParted, Cond.code yX0_isParted cX0_isParted 1 (some .boolean), Cond.methodLink RX4 117 yX0_nodeBehind, Cond.instanceMethod yX0_nodeBehind, Cond.selects RX0 yX0_nodeBehind yX0_nodeBehind, Cond.code yX0_nodeBehind cX0_nodeBehind 4 (some .int), Cond.methodLink RX4 120 yX0_endInto, Cond.instanceMethod yX0_endInto, Cond.selects RX0 yX0_endInto yX0_endInto, Cond.code yX0_endInto cX0_endInto 3 (some .int), Cond.methodLink RX4 124 yX0_goInto, Cond.instanceMethod yX0_goInto, Cond.selects RX0 yX0_goInto yX0_goInto, Cond.code yX0_goInto cX0_goInto 3 (some .int), Cond.methodLink RX4 127 yX1_markOfEnd, Cond.instanceMethod yX1_markOfEnd, Cond.selects RX1 yX1_markOfEnd yX1_markOfEnd, Cond.code yX1_markOfEnd cX1_markOfEnd 2 (some .int), Cond.methodLink RX4 130 yX1_markOfGo, Cond.instanceMethod yX1_markOfGo, Cond.selects RX1 yX1_markOfGo yX1_markOfGo]
def wsX4_look_r7 : List Cond := [Cond.code yX1_markOfGo cX1_markOfGo 2 (some .int), Cond.methodLink RX4 133 yX4_isRaised, Cond.instanceMethod yX4_isRaised, Cond.selects RX4 yX4_isRaised yX4_isRaised, Cond.code yX4_isRaised cX4_isRaised 6 (some .boolean), Cond.fieldLink RX4 13 "StopSetter" "isName" "[Z", Cond.methodLink RX4 137 yX4_stateOf, Cond.methodLink RX4 140 yX4_quotesOf]
def wsX4_look : List Cond := .code yX4_look cX4_look 6 (some .int) :: ((wsX4_look_r1 ++ (wsX4_look_r2 ++ (wsX4_look_r3 ++ (wsX4_look_r4 ++ (wsX4_look_r5 ++ (wsX4_look_r6 ++ wsX4_look_r7)))))) ++ wsX40 ++ wsX00 ++ wsX10 ++ (vx_at0 RX4 116 "java/util/NoSuchElementException" ["java/lang/RuntimeException", "java/lang/Exception"]).filter goodWord)
def wsX4_last_r1 : List Cond := [Cond.fieldLink RX4 52 "StopSetter" "chart" "LStopSetter$Chart;", Cond.methodLink RX4 98 yX4_solve, Cond.instanceMethod yX4_solve, Cond.selects RX4 yX4_solve yX4_solve, Cond.initialized RX4, Cond.code yX4_solve cX4_solve 3 none, Cond.fieldLink RX4 74 "StopSetter" "size" "I", Cond.fieldLink RX4 42 "StopSetter" "lines" "LStopSetter$Grammar;", Cond.fieldLink RX4 9 "StopSetter" "kindsOf" "[I", Cond.fieldLink RX4 20 "StopSetter" "marks" "[I", Cond.methodLink RX4 180 yX4_wordAt, Cond.instanceMethod yX4_wordAt, Cond.selects RX4 yX4_wordAt yX4_wordAt, Cond.code yX4_wordAt cX4_wordAt 2 (some .int), Cond.fieldLink RX4 17 "StopSetter" "row" "[I", Cond.methodLink RX4 78 yX4_hasPlace, Cond.instanceMethod yX4_hasPlace, Cond.selects RX4 yX4_hasPlace yX4_hasPlace, Cond.code yX4_hasPlace cX4_hasPlace 2 (some .boolean), Cond.methodLink RX4 62 yX4_isWord, Cond.static yX4_isWord, Cond.code yX4_isWord cX4_isWord 1 (some .boolean), Cond.methodLink RX4 186 yX0_extend, Cond.instanceMethod yX0_extend]
def wsX4_last_r2 : List Cond := [Cond.selects RX0 yX0_extend yX0_extend, Cond.initialized RX0, Cond.code yX0_extend cX0_extend 5 none, Cond.fieldLink RX0 47 "StopSetter$Chart" "ready" "I", Cond.fieldLink RX0 11 "StopSetter$Chart" "best" "[I", Cond.constant RX0 33 (1000000000), Cond.fieldLink RX0 15 "StopSetter$Chart" "next" "[I", Cond.methodLink RX0 50 yX0_cell, Cond.static yX0_cell, Cond.code yX0_cell cX0_cell 3 (some .int), Cond.methodLink RX0 54 yX0_isReached, Cond.instanceMethod yX0_isReached, Cond.selects RX0 yX0_isReached yX0_isReached, Cond.code yX0_isReached cX0_isReached 2 (some .boolean), Cond.methodLink RX0 58 yX0_stepFrom, Cond.instanceMethod yX0_stepFrom, Cond.selects RX0 yX0_stepFrom yX0_stepFrom, Cond.code yX0_stepFrom cX0_stepFrom 7 none, Cond.methodLink RX0 65 yX0_goFrom, Cond.instanceMethod yX0_goFrom, Cond.selects RX0 yX0_goFrom yX0_goFrom, Cond.code yX0_goFrom cX0_goFrom 10 none, Cond.static yX4_stateOf, Cond.code yX4_stateOf cX4_stateOf 1 (some .int)]
def wsX4_last_r3 : List Cond := [Cond.methodLink RX0 88 yX1_canGo, Cond.instanceMethod yX1_canGo, Cond.selects RX1 yX1_canGo yX1_canGo, Cond.initialized RX1, Cond.code yX1_canGo cX1_canGo 5 (some .boolean), Cond.fieldLink RX1 11 "StopSetter$Grammar" "goFrom" "[I", Cond.fieldLink RX1 15 "StopSetter$Grammar" "goKind" "[I", Cond.fieldLink RX1 24 "StopSetter$Grammar" "goMark" "[I", Cond.methodLink RX1 49 yX1_hasGo, Cond.instanceMethod yX1_hasGo, Cond.selects RX1 yX1_hasGo yX1_hasGo, Cond.code yX1_hasGo cX1_hasGo 2 (some .boolean), Cond.fieldLink RX1 42 "StopSetter$Grammar" "goCount" "I", Cond.static yX4_quotesOf, Cond.code yX4_quotesOf cX4_quotesOf 1 (some .int), Cond.methodLink RX0 92 yX1_nodeBehind, Cond.instanceMethod yX1_nodeBehind, Cond.selects RX1 yX1_nodeBehind yX1_nodeBehind, Cond.code yX1_nodeBehind cX1_nodeBehind 3 (some .int), Cond.fieldLink RX1 18 "StopSetter$Grammar" "goTo" "[I", Cond.static yX4_nodeOf, Cond.code yX4_nodeOf cX4_nodeOf 2 (some .int), Cond.methodLink RX0 95 yX1_costOfEnd, Cond.instanceMethod yX1_costOfEnd]
def wsX4_last_r4 : List Cond := [Cond.selects RX1 yX1_costOfEnd yX1_costOfEnd, Cond.code yX1_costOfEnd cX1_costOfEnd 2 (some .int), Cond.fieldLink RX1 30 "StopSetter$Grammar" "endCost" "[I", Cond.methodLink RX1 53 yX1_hasEnd, Cond.instanceMethod yX1_hasEnd, Cond.selects RX1 yX1_hasEnd yX1_hasEnd, Cond.code yX1_hasEnd cX1_hasEnd 2 (some .boolean), Cond.fieldLink RX1 46 "StopSetter$Grammar" "endCount" "I", Cond.methodLink RX0 101 yX0_offer, Cond.instanceMethod yX0_offer, Cond.selects RX0 yX0_offer yX0_offer, Cond.code yX0_offer cX0_offer 10 none, Cond.fieldLink RX0 18 "StopSetter$Chart" "rank" "[I", Cond.fieldLink RX0 30 "StopSetter$Chart" "order" "[I", Cond.fieldLink RX0 21 "StopSetter$Chart" "nodeAhead" "[I", Cond.fieldLink RX0 24 "StopSetter$Chart" "endUsed" "[I", Cond.fieldLink RX0 27 "StopSetter$Chart" "goUsed" "[I", Cond.methodLink RX0 105 Lib.Math.min.name, Cond.static Lib.Math.min.name, Cond.initialized "java/lang/Math", Cond.code Lib.Math.min.name Lib.Math.min.code 2 (some .int), Cond.methodLink RX0 81 yX1_canEnd, Cond.instanceMethod yX1_canEnd, Cond.selects RX1 yX1_canEnd yX1_canEnd]
def wsX4_last_r5 : List Cond := [Cond.code yX1_canEnd cX1_canEnd 4 (some .boolean), Cond.fieldLink RX1 27 "StopSetter$Grammar" "endFrom" "[I", Cond.fieldLink RX1 33 "StopSetter$Grammar" "endMark" "[I", Cond.methodLink RX0 62 yX0_rankLevel, Cond.instanceMethod yX0_rankLevel, Cond.selects RX0 yX0_rankLevel yX0_rankLevel, Cond.code yX0_rankLevel cX0_rankLevel 2 none, Cond.methodLink RX0 110 yX0_waysAheadOf, Cond.instanceMethod yX0_waysAheadOf, Cond.selects RX0 yX0_waysAheadOf yX0_waysAheadOf, Cond.code yX0_waysAheadOf cX0_waysAheadOf 4 (some .int), Cond.methodLink RX4 190 yX0_finish, Cond.instanceMethod yX0_finish, Cond.selects RX0 yX0_finish yX0_finish, Cond.code yX0_finish cX0_finish 5 none, Cond.fieldLink RX0 34 "StopSetter$Chart" "leastCost" "I", Cond.fieldLink RX0 38 "StopSetter$Chart" "secondCost" "I", Cond.fieldLink RX0 113 "StopSetter$Chart" "lastNode" "I", Cond.fieldLink RX0 116 "StopSetter$Chart" "lastEnd" "I", Cond.methodLink RX0 122 yX0_offerLast, Cond.instanceMethod yX0_offerLast, Cond.selects RX0 yX0_offerLast yX0_offerLast, Cond.code yX0_offerLast cX0_offerLast 7 none, Cond.methodLink RX4 101 yX0_isParted]
def wsX4_last_r6 : List Cond := [Cond.instanceMethod yX0_isParted, Cond.selects RX0 yX0_isParted yX0_isParted, Cond.code yX0_isParted cX0_isParted 1 (some .boolean)]
def wsX4_last : List Cond := .code yX4_last cX4_last 1 (some .int) :: ((wsX4_last_r1 ++ (wsX4_last_r2 ++ (wsX4_last_r3 ++ (wsX4_last_r4 ++ (wsX4_last_r5 ++ wsX4_last_r6))))) ++ wsX40 ++ wsX00 ++ wsX10)
def wsX4_sentences_r1 : List Cond := [Cond.fieldLink RX4 52 "StopSetter" "chart" "LStopSetter$Chart;", Cond.methodLink RX4 98 yX4_solve, Cond.instanceMethod yX4_solve, Cond.selects RX4 yX4_solve yX4_solve, Cond.initialized RX4, Cond.code yX4_solve cX4_solve 3 none, Cond.fieldLink RX4 74 "StopSetter" "size" "I", Cond.fieldLink RX4 42 "StopSetter" "lines" "LStopSetter$Grammar;", Cond.fieldLink RX4 9 "StopSetter" "kindsOf" "[I", Cond.fieldLink RX4 20 "StopSetter" "marks" "[I", Cond.methodLink RX4 180 yX4_wordAt, Cond.instanceMethod yX4_wordAt, Cond.selects RX4 yX4_wordAt yX4_wordAt, Cond.code yX4_wordAt cX4_wordAt 2 (some .int), Cond.fieldLink RX4 17 "StopSetter" "row" "[I", Cond.methodLink RX4 78 yX4_hasPlace, Cond.instanceMethod yX4_hasPlace, Cond.selects RX4 yX4_hasPlace yX4_hasPlace, Cond.code yX4_hasPlace cX4_hasPlace 2 (some .boolean), Cond.methodLink RX4 62 yX4_isWord, Cond.static yX4_isWord, Cond.code yX4_isWord cX4_isWord 1 (some .boolean), Cond.methodLink RX4 186 yX0_extend, Cond.instanceMethod yX0_extend]
def wsX4_sentences_r2 : List Cond := [Cond.selects RX0 yX0_extend yX0_extend, Cond.initialized RX0, Cond.code yX0_extend cX0_extend 5 none, Cond.fieldLink RX0 47 "StopSetter$Chart" "ready" "I", Cond.fieldLink RX0 11 "StopSetter$Chart" "best" "[I", Cond.constant RX0 33 (1000000000), Cond.fieldLink RX0 15 "StopSetter$Chart" "next" "[I", Cond.methodLink RX0 50 yX0_cell, Cond.static yX0_cell, Cond.code yX0_cell cX0_cell 3 (some .int), Cond.methodLink RX0 54 yX0_isReached, Cond.instanceMethod yX0_isReached, Cond.selects RX0 yX0_isReached yX0_isReached, Cond.code yX0_isReached cX0_isReached 2 (some .boolean), Cond.methodLink RX0 58 yX0_stepFrom, Cond.instanceMethod yX0_stepFrom, Cond.selects RX0 yX0_stepFrom yX0_stepFrom, Cond.code yX0_stepFrom cX0_stepFrom 7 none, Cond.methodLink RX0 65 yX0_goFrom, Cond.instanceMethod yX0_goFrom, Cond.selects RX0 yX0_goFrom yX0_goFrom, Cond.code yX0_goFrom cX0_goFrom 10 none, Cond.static yX4_stateOf, Cond.code yX4_stateOf cX4_stateOf 1 (some .int)]
def wsX4_sentences_r3 : List Cond := [Cond.methodLink RX0 88 yX1_canGo, Cond.instanceMethod yX1_canGo, Cond.selects RX1 yX1_canGo yX1_canGo, Cond.initialized RX1, Cond.code yX1_canGo cX1_canGo 5 (some .boolean), Cond.fieldLink RX1 11 "StopSetter$Grammar" "goFrom" "[I", Cond.fieldLink RX1 15 "StopSetter$Grammar" "goKind" "[I", Cond.fieldLink RX1 24 "StopSetter$Grammar" "goMark" "[I", Cond.methodLink RX1 49 yX1_hasGo, Cond.instanceMethod yX1_hasGo, Cond.selects RX1 yX1_hasGo yX1_hasGo, Cond.code yX1_hasGo cX1_hasGo 2 (some .boolean), Cond.fieldLink RX1 42 "StopSetter$Grammar" "goCount" "I", Cond.static yX4_quotesOf, Cond.code yX4_quotesOf cX4_quotesOf 1 (some .int), Cond.methodLink RX0 92 yX1_nodeBehind, Cond.instanceMethod yX1_nodeBehind, Cond.selects RX1 yX1_nodeBehind yX1_nodeBehind, Cond.code yX1_nodeBehind cX1_nodeBehind 3 (some .int), Cond.fieldLink RX1 18 "StopSetter$Grammar" "goTo" "[I", Cond.static yX4_nodeOf, Cond.code yX4_nodeOf cX4_nodeOf 2 (some .int), Cond.methodLink RX0 95 yX1_costOfEnd, Cond.instanceMethod yX1_costOfEnd]
def wsX4_sentences_r4 : List Cond := [Cond.selects RX1 yX1_costOfEnd yX1_costOfEnd, Cond.code yX1_costOfEnd cX1_costOfEnd 2 (some .int), Cond.fieldLink RX1 30 "StopSetter$Grammar" "endCost" "[I", Cond.methodLink RX1 53 yX1_hasEnd, Cond.instanceMethod yX1_hasEnd, Cond.selects RX1 yX1_hasEnd yX1_hasEnd, Cond.code yX1_hasEnd cX1_hasEnd 2 (some .boolean), Cond.fieldLink RX1 46 "StopSetter$Grammar" "endCount" "I", Cond.methodLink RX0 101 yX0_offer, Cond.instanceMethod yX0_offer, Cond.selects RX0 yX0_offer yX0_offer, Cond.code yX0_offer cX0_offer 10 none, Cond.fieldLink RX0 18 "StopSetter$Chart" "rank" "[I", Cond.fieldLink RX0 30 "StopSetter$Chart" "order" "[I", Cond.fieldLink RX0 21 "StopSetter$Chart" "nodeAhead" "[I", Cond.fieldLink RX0 24 "StopSetter$Chart" "endUsed" "[I", Cond.fieldLink RX0 27 "StopSetter$Chart" "goUsed" "[I", Cond.methodLink RX0 105 Lib.Math.min.name, Cond.static Lib.Math.min.name, Cond.initialized "java/lang/Math", Cond.code Lib.Math.min.name Lib.Math.min.code 2 (some .int), Cond.methodLink RX0 81 yX1_canEnd, Cond.instanceMethod yX1_canEnd, Cond.selects RX1 yX1_canEnd yX1_canEnd]
def wsX4_sentences_r5 : List Cond := [Cond.code yX1_canEnd cX1_canEnd 4 (some .boolean), Cond.fieldLink RX1 27 "StopSetter$Grammar" "endFrom" "[I", Cond.fieldLink RX1 33 "StopSetter$Grammar" "endMark" "[I", Cond.methodLink RX0 62 yX0_rankLevel, Cond.instanceMethod yX0_rankLevel, Cond.selects RX0 yX0_rankLevel yX0_rankLevel, Cond.code yX0_rankLevel cX0_rankLevel 2 none, Cond.methodLink RX0 110 yX0_waysAheadOf, Cond.instanceMethod yX0_waysAheadOf, Cond.selects RX0 yX0_waysAheadOf yX0_waysAheadOf, Cond.code yX0_waysAheadOf cX0_waysAheadOf 4 (some .int), Cond.methodLink RX4 190 yX0_finish, Cond.instanceMethod yX0_finish, Cond.selects RX0 yX0_finish yX0_finish, Cond.code yX0_finish cX0_finish 5 none, Cond.fieldLink RX0 34 "StopSetter$Chart" "leastCost" "I", Cond.fieldLink RX0 38 "StopSetter$Chart" "secondCost" "I", Cond.fieldLink RX0 113 "StopSetter$Chart" "lastNode" "I", Cond.fieldLink RX0 116 "StopSetter$Chart" "lastEnd" "I", Cond.methodLink RX0 122 yX0_offerLast, Cond.instanceMethod yX0_offerLast, Cond.selects RX0 yX0_offerLast yX0_offerLast, Cond.code yX0_offerLast cX0_offerLast 7 none, Cond.methodLink RX4 101 yX0_isParted]
def wsX4_sentences_r6 : List Cond := [Cond.instanceMethod yX0_isParted, Cond.selects RX0 yX0_isParted yX0_isParted, Cond.code yX0_isParted cX0_isParted 1 (some .boolean), Cond.methodLink RX4 146 yX0_endsInside, Cond.instanceMethod yX0_endsInside, Cond.selects RX0 yX0_endsInside yX0_endsInside, Cond.code yX0_endsInside cX0_endsInside 4 (some .int), Cond.methodLink RX0 126 yX0_endInto, Cond.instanceMethod yX0_endInto, Cond.selects RX0 yX0_endInto yX0_endInto, Cond.code yX0_endInto cX0_endInto 3 (some .int)]
def wsX4_sentences : List Cond := .code yX4_sentences cX4_sentences 1 (some .int) :: ((wsX4_sentences_r1 ++ (wsX4_sentences_r2 ++ (wsX4_sentences_r3 ++ (wsX4_sentences_r4 ++ (wsX4_sentences_r5 ++ wsX4_sentences_r6))))) ++ wsX40 ++ wsX00 ++ wsX10)
def wsX4_settled_r1 : List Cond := [Cond.fieldLink RX4 52 "StopSetter" "chart" "LStopSetter$Chart;", Cond.fieldLink RX4 42 "StopSetter" "lines" "LStopSetter$Grammar;", Cond.methodLink RX4 98 yX4_solve, Cond.instanceMethod yX4_solve, Cond.selects RX4 yX4_solve yX4_solve, Cond.initialized RX4, Cond.code yX4_solve cX4_solve 3 none, Cond.fieldLink RX4 74 "StopSetter" "size" "I", Cond.fieldLink RX4 9 "StopSetter" "kindsOf" "[I", Cond.fieldLink RX4 20 "StopSetter" "marks" "[I", Cond.methodLink RX4 180 yX4_wordAt, Cond.instanceMethod yX4_wordAt, Cond.selects RX4 yX4_wordAt yX4_wordAt, Cond.code yX4_wordAt cX4_wordAt 2 (some .int), Cond.fieldLink RX4 17 "StopSetter" "row" "[I", Cond.methodLink RX4 78 yX4_hasPlace, Cond.instanceMethod yX4_hasPlace, Cond.selects RX4 yX4_hasPlace yX4_hasPlace, Cond.code yX4_hasPlace cX4_hasPlace 2 (some .boolean), Cond.methodLink RX4 62 yX4_isWord, Cond.static yX4_isWord, Cond.code yX4_isWord cX4_isWord 1 (some .boolean), Cond.methodLink RX4 186 yX0_extend, Cond.instanceMethod yX0_extend]
def wsX4_settled_r2 : List Cond := [Cond.selects RX0 yX0_extend yX0_extend, Cond.initialized RX0, Cond.code yX0_extend cX0_extend 5 none, Cond.fieldLink RX0 47 "StopSetter$Chart" "ready" "I", Cond.fieldLink RX0 11 "StopSetter$Chart" "best" "[I", Cond.constant RX0 33 (1000000000), Cond.fieldLink RX0 15 "StopSetter$Chart" "next" "[I", Cond.methodLink RX0 50 yX0_cell, Cond.static yX0_cell, Cond.code yX0_cell cX0_cell 3 (some .int), Cond.methodLink RX0 54 yX0_isReached, Cond.instanceMethod yX0_isReached, Cond.selects RX0 yX0_isReached yX0_isReached, Cond.code yX0_isReached cX0_isReached 2 (some .boolean), Cond.methodLink RX0 58 yX0_stepFrom, Cond.instanceMethod yX0_stepFrom, Cond.selects RX0 yX0_stepFrom yX0_stepFrom, Cond.code yX0_stepFrom cX0_stepFrom 7 none, Cond.methodLink RX0 65 yX0_goFrom, Cond.instanceMethod yX0_goFrom, Cond.selects RX0 yX0_goFrom yX0_goFrom, Cond.code yX0_goFrom cX0_goFrom 10 none, Cond.static yX4_stateOf, Cond.code yX4_stateOf cX4_stateOf 1 (some .int)]
def wsX4_settled_r3 : List Cond := [Cond.methodLink RX0 88 yX1_canGo, Cond.instanceMethod yX1_canGo, Cond.selects RX1 yX1_canGo yX1_canGo, Cond.initialized RX1, Cond.code yX1_canGo cX1_canGo 5 (some .boolean), Cond.fieldLink RX1 11 "StopSetter$Grammar" "goFrom" "[I", Cond.fieldLink RX1 15 "StopSetter$Grammar" "goKind" "[I", Cond.fieldLink RX1 24 "StopSetter$Grammar" "goMark" "[I", Cond.methodLink RX1 49 yX1_hasGo, Cond.instanceMethod yX1_hasGo, Cond.selects RX1 yX1_hasGo yX1_hasGo, Cond.code yX1_hasGo cX1_hasGo 2 (some .boolean), Cond.fieldLink RX1 42 "StopSetter$Grammar" "goCount" "I", Cond.static yX4_quotesOf, Cond.code yX4_quotesOf cX4_quotesOf 1 (some .int), Cond.methodLink RX0 92 yX1_nodeBehind, Cond.instanceMethod yX1_nodeBehind, Cond.selects RX1 yX1_nodeBehind yX1_nodeBehind, Cond.code yX1_nodeBehind cX1_nodeBehind 3 (some .int), Cond.fieldLink RX1 18 "StopSetter$Grammar" "goTo" "[I", Cond.static yX4_nodeOf, Cond.code yX4_nodeOf cX4_nodeOf 2 (some .int), Cond.methodLink RX0 95 yX1_costOfEnd, Cond.instanceMethod yX1_costOfEnd]
def wsX4_settled_r4 : List Cond := [Cond.selects RX1 yX1_costOfEnd yX1_costOfEnd, Cond.code yX1_costOfEnd cX1_costOfEnd 2 (some .int), Cond.fieldLink RX1 30 "StopSetter$Grammar" "endCost" "[I", Cond.methodLink RX1 53 yX1_hasEnd, Cond.instanceMethod yX1_hasEnd, Cond.selects RX1 yX1_hasEnd yX1_hasEnd, Cond.code yX1_hasEnd cX1_hasEnd 2 (some .boolean), Cond.fieldLink RX1 46 "StopSetter$Grammar" "endCount" "I", Cond.methodLink RX0 101 yX0_offer, Cond.instanceMethod yX0_offer, Cond.selects RX0 yX0_offer yX0_offer, Cond.code yX0_offer cX0_offer 10 none, Cond.fieldLink RX0 18 "StopSetter$Chart" "rank" "[I", Cond.fieldLink RX0 30 "StopSetter$Chart" "order" "[I", Cond.fieldLink RX0 21 "StopSetter$Chart" "nodeAhead" "[I", Cond.fieldLink RX0 24 "StopSetter$Chart" "endUsed" "[I", Cond.fieldLink RX0 27 "StopSetter$Chart" "goUsed" "[I", Cond.methodLink RX0 105 Lib.Math.min.name, Cond.static Lib.Math.min.name, Cond.initialized "java/lang/Math", Cond.code Lib.Math.min.name Lib.Math.min.code 2 (some .int), Cond.methodLink RX0 81 yX1_canEnd, Cond.instanceMethod yX1_canEnd, Cond.selects RX1 yX1_canEnd yX1_canEnd]
def wsX4_settled_r5 : List Cond := [Cond.code yX1_canEnd cX1_canEnd 4 (some .boolean), Cond.fieldLink RX1 27 "StopSetter$Grammar" "endFrom" "[I", Cond.fieldLink RX1 33 "StopSetter$Grammar" "endMark" "[I", Cond.methodLink RX0 62 yX0_rankLevel, Cond.instanceMethod yX0_rankLevel, Cond.selects RX0 yX0_rankLevel yX0_rankLevel, Cond.code yX0_rankLevel cX0_rankLevel 2 none, Cond.methodLink RX0 110 yX0_waysAheadOf, Cond.instanceMethod yX0_waysAheadOf, Cond.selects RX0 yX0_waysAheadOf yX0_waysAheadOf, Cond.code yX0_waysAheadOf cX0_waysAheadOf 4 (some .int), Cond.methodLink RX4 190 yX0_finish, Cond.instanceMethod yX0_finish, Cond.selects RX0 yX0_finish yX0_finish, Cond.code yX0_finish cX0_finish 5 none, Cond.fieldLink RX0 34 "StopSetter$Chart" "leastCost" "I", Cond.fieldLink RX0 38 "StopSetter$Chart" "secondCost" "I", Cond.fieldLink RX0 113 "StopSetter$Chart" "lastNode" "I", Cond.fieldLink RX0 116 "StopSetter$Chart" "lastEnd" "I", Cond.methodLink RX0 122 yX0_offerLast, Cond.instanceMethod yX0_offerLast, Cond.selects RX0 yX0_offerLast yX0_offerLast, Cond.code yX0_offerLast cX0_offerLast 7 none, Cond.methodLink RX4 150 yX0_sharedSteps]
def wsX4_settled_r6 : List Cond := [Cond.instanceMethod yX0_sharedSteps, Cond.selects RX0 yX0_sharedSteps yX0_sharedSteps, Cond.code yX0_sharedSteps cX0_sharedSteps 5 (some .int), Cond.methodLink RX0 129 yX1_isHopeful, Cond.instanceMethod yX1_isHopeful, Cond.selects RX1 yX1_isHopeful yX1_isHopeful, Cond.code yX1_isHopeful cX1_isHopeful 2 (some .boolean), Cond.fieldLink RX1 38 "StopSetter$Grammar" "hopeful" "[Z", Cond.methodLink RX0 132 yX0_meetingLevel, Cond.instanceMethod yX0_meetingLevel, Cond.selects RX0 yX0_meetingLevel yX0_meetingLevel, Cond.code yX0_meetingLevel cX0_meetingLevel 6 (some .int)]
def wsX4_settled : List Cond := .code yX4_settled cX4_settled 1 (some .int) :: ((wsX4_settled_r1 ++ (wsX4_settled_r2 ++ (wsX4_settled_r3 ++ (wsX4_settled_r4 ++ (wsX4_settled_r5 ++ wsX4_settled_r6))))) ++ wsX40 ++ wsX00 ++ wsX10)
def wsX4_go : List Cond := .code yX4_go cX4_go 3 (some .int) :: ([.fieldLink RX4 42 "StopSetter" "lines" "LStopSetter$Grammar;", .methodLink RX4 153 yX1_hasGo, .instanceMethod yX1_hasGo, .selects RX1 yX1_hasGo yX1_hasGo, .initialized RX1, .code yX1_hasGo cX1_hasGo 2 (some .boolean), .fieldLink RX1 42 "StopSetter$Grammar" "goCount" "I"] ++ wsX40 ++ wsX10)
def wsX4_handMarks : List Cond := .code yX4_handMarks cX4_handMarks 3 (some .int) :: ([.fieldLink RX4 74 "StopSetter" "size" "I", .fieldLink RX4 20 "StopSetter" "marks" "[I"] ++ wsX40)
def wsX4_count : List Cond := .code yX4_count cX4_count 2 (some .int) :: ([.fieldLink RX4 74 "StopSetter" "size" "I", .fieldLink RX4 42 "StopSetter" "lines" "LStopSetter$Grammar;", .fieldLink RX4 26 "StopSetter" "tape" "LStopSetter$Tape;", .methodLink RX4 177 yX4_handMarks, .instanceMethod yX4_handMarks, .selects RX4 yX4_handMarks yX4_handMarks, .initialized RX4, .code yX4_handMarks cX4_handMarks 3 (some .int), .fieldLink RX4 20 "StopSetter" "marks" "[I"] ++ wsX40 ++ wsX10 ++ wsX30)
def wsX5_thrown : List Cond := .code yX5_thrown cX5_thrown 1 (some .int) :: ([.fieldLink RX5 1 "StopSetterModel" "thrown" "I"] ++ wsX50)
def wsX5_lay : List Cond := .code yX5_lay cX5_lay 5 none :: ([.fieldLink RX5 11 "StopSetterModel" "taped" "I", .fieldLink RX5 14 "StopSetterModel" "tape" "[I"] ++ wsX50)
def wsX5_feed : List Cond := .code yX5_feed cX5_feed 7 (some .int) :: ([.fieldLink RX5 1 "StopSetterModel" "thrown" "I", .fieldLink RX5 11 "StopSetterModel" "taped" "I", .methodLink RX5 7 yX5_lay, .instanceMethod yX5_lay, .selects RX5 yX5_lay yX5_lay, .initialized RX5, .code yX5_lay cX5_lay 5 none, .fieldLink RX5 14 "StopSetterModel" "tape" "[I"] ++ wsX50)
def wsX5_init_r1 : List Cond := [Cond.methodLink RX5 18 objectInit, Cond.instanceMethod objectInit, Cond.code objectInit ⟨#[0xb1]⟩ 1 none, Cond.arrayClass .int, Cond.fieldLink RX5 14 "StopSetterModel" "tape" "[I", Cond.fieldLink RX5 24 "StopSetterModel" "sort" "[I", Cond.fieldLink RX5 27 "StopSetterModel" "place" "[I", Cond.arrayClass .long, Cond.fieldLink RX5 30 "StopSetterModel" "value" "[J", Cond.constantLong RX5 34 (274), Cond.constantLong RX5 36 (570026), Cond.constantLong RX5 38 (755), Cond.constantLong RX5 40 (173217), Cond.constantLong RX5 42 (1178088), Cond.constantLong RX5 44 (6400557), Cond.constantLong RX5 46 (781898), Cond.constantLong RX5 48 (6251562), Cond.constantLong RX5 50 (7367), Cond.constantLong RX5 52 (990358), Cond.constantLong RX5 54 (1668105520644), Cond.constantLong RX5 56 (6399275), Cond.fieldLink RX5 58 "StopSetterModel" "words" "[J", Cond.fieldLink RX5 61 "StopSetterModel" "goes" "[I", Cond.fieldLink RX5 64 "StopSetterModel" "goLine" "[I"]
def wsX5_init_r2 : List Cond := [Cond.fieldLink RX5 67 "StopSetterModel" "ends" "[I", Cond.fieldLink RX5 70 "StopSetterModel" "endLine" "[I", Cond.fieldLink RX5 73 "StopSetterModel" "kinds" "[I", Cond.arrayClass .boolean, Cond.fieldLink RX5 76 "StopSetterModel" "isName" "[Z", Cond.fieldLink RX5 80 "StopSetterModel" "row" "[I", Cond.fieldLink RX5 83 "StopSetterModel" "byHand" "[I", Cond.fieldLink RX5 86 "StopSetterModel" "least" "[I", Cond.fieldLink RX5 89 "StopSetterModel" "second" "[I", Cond.fieldLink RX5 92 "StopSetterModel" "endAt" "[I", Cond.fieldLink RX5 95 "StopSetterModel" "goAt" "[I", Cond.fieldLink RX5 98 "StopSetterModel" "nodeBehind" "[I", Cond.fieldLink RX5 101 "StopSetterModel" "isOut" "[Z", Cond.fieldLink RX5 104 "StopSetterModel" "firstEnd" "[I", Cond.fieldLink RX5 107 "StopSetterModel" "firstGo" "[I"]
def wsX5_init : List Cond := .code yX5_init cX5_init 2 none :: ((wsX5_init_r1 ++ wsX5_init_r2) ++ wsX50)
def wsX5_isLetter : List Cond := .code yX5_isLetter cX5_isLetter 1 (some .boolean) :: ([])
def wsX5_isDigit : List Cond := .code yX5_isDigit cX5_isDigit 1 (some .boolean) :: ([])
def wsX5_rank : List Cond := .code yX5_rank cX5_rank 1 (some .int) :: ([.methodLink RX5 110 yX5_isLetter, .static yX5_isLetter, .initialized RX5, .code yX5_isLetter cX5_isLetter 1 (some .boolean)])
def wsX5_isSignOf : List Cond := .code yX5_isSignOf cX5_isSignOf 1 (some .boolean) :: ([])
def wsX5_cutAll : List Cond := .code yX5_cutAll cX5_cutAll 7 none :: ([.fieldLink RX5 11 "StopSetterModel" "taped" "I", .fieldLink RX5 114 "StopSetterModel" "size" "I", .fieldLink RX5 14 "StopSetterModel" "tape" "[I", .fieldLink RX5 27 "StopSetterModel" "place" "[I", .constantLong RX5 117 (37), .fieldLink RX5 24 "StopSetterModel" "sort" "[I", .constantLong RX5 126 (10), .constantLong RX5 128 (48), .fieldLink RX5 30 "StopSetterModel" "value" "[J", .fieldLink RX5 133 "StopSetterModel" "at" "I", .fieldLink RX5 136 "StopSetterModel" "fault" "I", .methodLink RX5 110 yX5_isLetter, .static yX5_isLetter, .initialized RX5, .code yX5_isLetter cX5_isLetter 1 (some .boolean), .methodLink RX5 119 yX5_rank, .static yX5_rank, .code yX5_rank cX5_rank 1 (some .int), .methodLink RX5 123 yX5_isDigit, .static yX5_isDigit, .code yX5_isDigit cX5_isDigit 1 (some .boolean), .methodLink RX5 130 yX5_isSignOf, .static yX5_isSignOf, .code yX5_isSignOf cX5_isSignOf 1 (some .boolean)] ++ wsX50)
def wsX5_wrong : List Cond := .code yX5_wrong cX5_wrong 2 none :: ([.fieldLink RX5 136 "StopSetterModel" "fault" "I", .fieldLink RX5 27 "StopSetterModel" "place" "[I", .fieldLink RX5 133 "StopSetterModel" "at" "I"] ++ wsX50)
def wsX5_isSign : List Cond := .code yX5_isSign cX5_isSign 2 (some .boolean) :: ([.fieldLink RX5 136 "StopSetterModel" "fault" "I", .fieldLink RX5 24 "StopSetterModel" "sort" "[I", .fieldLink RX5 133 "StopSetterModel" "at" "I", .fieldLink RX5 30 "StopSetterModel" "value" "[J"] ++ wsX50)
def wsX5_isWord : List Cond := .code yX5_isWord cX5_isWord 2 (some .boolean) :: ([.fieldLink RX5 136 "StopSetterModel" "fault" "I", .fieldLink RX5 24 "StopSetterModel" "sort" "[I", .fieldLink RX5 133 "StopSetterModel" "at" "I", .fieldLink RX5 30 "StopSetterModel" "value" "[J", .fieldLink RX5 58 "StopSetterModel" "words" "[J"] ++ wsX50)
def wsX5_takeSign : List Cond := .code yX5_takeSign cX5_takeSign 2 none :: ([.fieldLink RX5 133 "StopSetterModel" "at" "I", .methodLink RX5 139 yX5_isSign, .instanceMethod yX5_isSign, .selects RX5 yX5_isSign yX5_isSign, .initialized RX5, .code yX5_isSign cX5_isSign 2 (some .boolean), .fieldLink RX5 136 "StopSetterModel" "fault" "I", .fieldLink RX5 24 "StopSetterModel" "sort" "[I", .fieldLink RX5 30 "StopSetterModel" "value" "[J", .methodLink RX5 142 yX5_wrong, .instanceMethod yX5_wrong, .selects RX5 yX5_wrong yX5_wrong, .code yX5_wrong cX5_wrong 2 none, .fieldLink RX5 27 "StopSetterModel" "place" "[I"] ++ wsX50)
def wsX5_hasWord : List Cond := .code yX5_hasWord cX5_hasWord 3 (some .boolean) :: ([.fieldLink RX5 133 "StopSetterModel" "at" "I", .methodLink RX5 146 yX5_isWord, .instanceMethod yX5_isWord, .selects RX5 yX5_isWord yX5_isWord, .initialized RX5, .code yX5_isWord cX5_isWord 2 (some .boolean), .fieldLink RX5 136 "StopSetterModel" "fault" "I", .fieldLink RX5 24 "StopSetterModel" "sort" "[I", .fieldLink RX5 30 "StopSetterModel" "value" "[J", .fieldLink RX5 58 "StopSetterModel" "words" "[J"] ++ wsX50)
def wsX5_takeWord : List Cond := .code yX5_takeWord cX5_takeWord 2 none :: ([.methodLink RX5 149 yX5_hasWord, .instanceMethod yX5_hasWord, .selects RX5 yX5_hasWord yX5_hasWord, .initialized RX5, .code yX5_hasWord cX5_hasWord 3 (some .boolean), .fieldLink RX5 133 "StopSetterModel" "at" "I", .methodLink RX5 146 yX5_isWord, .instanceMethod yX5_isWord, .selects RX5 yX5_isWord yX5_isWord, .code yX5_isWord cX5_isWord 2 (some .boolean), .fieldLink RX5 136 "StopSetterModel" "fault" "I", .fieldLink RX5 24 "StopSetterModel" "sort" "[I", .fieldLink RX5 30 "StopSetterModel" "value" "[J", .fieldLink RX5 58 "StopSetterModel" "words" "[J", .methodLink RX5 142 yX5_wrong, .instanceMethod yX5_wrong, .selects RX5 yX5_wrong yX5_wrong, .code yX5_wrong cX5_wrong 2 none, .fieldLink RX5 27 "StopSetterModel" "place" "[I"] ++ wsX50)
def wsX5_takeNumber : List Cond := .code yX5_takeNumber cX5_takeNumber 3 (some .int) :: ([.fieldLink RX5 136 "StopSetterModel" "fault" "I", .fieldLink RX5 24 "StopSetterModel" "sort" "[I", .fieldLink RX5 133 "StopSetterModel" "at" "I", .fieldLink RX5 30 "StopSetterModel" "value" "[J", .methodLink RX5 142 yX5_wrong, .instanceMethod yX5_wrong, .selects RX5 yX5_wrong yX5_wrong, .initialized RX5, .code yX5_wrong cX5_wrong 2 none, .fieldLink RX5 27 "StopSetterModel" "place" "[I"] ++ wsX50)
def wsX5_takeOneOf : List Cond := .code yX5_takeOneOf cX5_takeOneOf 3 (some .int) :: ([.fieldLink RX5 136 "StopSetterModel" "fault" "I", .methodLink RX5 149 yX5_hasWord, .instanceMethod yX5_hasWord, .selects RX5 yX5_hasWord yX5_hasWord, .initialized RX5, .code yX5_hasWord cX5_hasWord 3 (some .boolean), .fieldLink RX5 133 "StopSetterModel" "at" "I", .methodLink RX5 146 yX5_isWord, .instanceMethod yX5_isWord, .selects RX5 yX5_isWord yX5_isWord, .code yX5_isWord cX5_isWord 2 (some .boolean), .fieldLink RX5 24 "StopSetterModel" "sort" "[I", .fieldLink RX5 30 "StopSetterModel" "value" "[J", .fieldLink RX5 58 "StopSetterModel" "words" "[J", .methodLink RX5 142 yX5_wrong, .instanceMethod yX5_wrong, .selects RX5 yX5_wrong yX5_wrong, .code yX5_wrong cX5_wrong 2 none, .fieldLink RX5 27 "StopSetterModel" "place" "[I"] ++ wsX50)
def wsX5_readGo_r1 : List Cond := [Cond.fieldLink RX5 61 "StopSetterModel" "goes" "[I", Cond.fieldLink RX5 158 "StopSetterModel" "next" "I", Cond.fieldLink RX5 133 "StopSetterModel" "at" "I", Cond.fieldLink RX5 64 "StopSetterModel" "goLine" "[I", Cond.methodLink RX5 142 yX5_wrong, Cond.instanceMethod yX5_wrong, Cond.selects RX5 yX5_wrong yX5_wrong, Cond.initialized RX5, Cond.code yX5_wrong cX5_wrong 2 none, Cond.fieldLink RX5 136 "StopSetterModel" "fault" "I", Cond.fieldLink RX5 27 "StopSetterModel" "place" "[I", Cond.methodLink RX5 167 yX5_takeNumber, Cond.instanceMethod yX5_takeNumber, Cond.selects RX5 yX5_takeNumber yX5_takeNumber, Cond.code yX5_takeNumber cX5_takeNumber 3 (some .int), Cond.fieldLink RX5 24 "StopSetterModel" "sort" "[I", Cond.fieldLink RX5 30 "StopSetterModel" "value" "[J", Cond.methodLink RX5 171 yX5_takeWord, Cond.instanceMethod yX5_takeWord, Cond.selects RX5 yX5_takeWord yX5_takeWord, Cond.code yX5_takeWord cX5_takeWord 2 none, Cond.methodLink RX5 149 yX5_hasWord, Cond.instanceMethod yX5_hasWord, Cond.selects RX5 yX5_hasWord yX5_hasWord]
def wsX5_readGo_r2 : List Cond := [Cond.code yX5_hasWord cX5_hasWord 3 (some .boolean), Cond.methodLink RX5 146 yX5_isWord, Cond.instanceMethod yX5_isWord, Cond.selects RX5 yX5_isWord yX5_isWord, Cond.code yX5_isWord cX5_isWord 2 (some .boolean), Cond.fieldLink RX5 58 "StopSetterModel" "words" "[J", Cond.methodLink RX5 174 yX5_takeOneOf, Cond.instanceMethod yX5_takeOneOf, Cond.selects RX5 yX5_takeOneOf yX5_takeOneOf, Cond.code yX5_takeOneOf cX5_takeOneOf 3 (some .int), Cond.methodLink RX5 177 yX5_takeSign, Cond.instanceMethod yX5_takeSign, Cond.selects RX5 yX5_takeSign yX5_takeSign, Cond.code yX5_takeSign cX5_takeSign 2 none, Cond.methodLink RX5 139 yX5_isSign, Cond.instanceMethod yX5_isSign, Cond.selects RX5 yX5_isSign yX5_isSign, Cond.code yX5_isSign cX5_isSign 2 (some .boolean)]
def wsX5_readGo : List Cond := .code yX5_readGo cX5_readGo 2 none :: ((wsX5_readGo_r1 ++ wsX5_readGo_r2) ++ wsX50)
def wsX5_readEnd_r1 : List Cond := [Cond.fieldLink RX5 67 "StopSetterModel" "ends" "[I", Cond.fieldLink RX5 158 "StopSetterModel" "next" "I", Cond.fieldLink RX5 133 "StopSetterModel" "at" "I", Cond.fieldLink RX5 70 "StopSetterModel" "endLine" "[I", Cond.methodLink RX5 142 yX5_wrong, Cond.instanceMethod yX5_wrong, Cond.selects RX5 yX5_wrong yX5_wrong, Cond.initialized RX5, Cond.code yX5_wrong cX5_wrong 2 none, Cond.fieldLink RX5 136 "StopSetterModel" "fault" "I", Cond.fieldLink RX5 27 "StopSetterModel" "place" "[I", Cond.methodLink RX5 167 yX5_takeNumber, Cond.instanceMethod yX5_takeNumber, Cond.selects RX5 yX5_takeNumber yX5_takeNumber, Cond.code yX5_takeNumber cX5_takeNumber 3 (some .int), Cond.fieldLink RX5 24 "StopSetterModel" "sort" "[I", Cond.fieldLink RX5 30 "StopSetterModel" "value" "[J", Cond.methodLink RX5 171 yX5_takeWord, Cond.instanceMethod yX5_takeWord, Cond.selects RX5 yX5_takeWord yX5_takeWord, Cond.code yX5_takeWord cX5_takeWord 2 none, Cond.methodLink RX5 149 yX5_hasWord, Cond.instanceMethod yX5_hasWord, Cond.selects RX5 yX5_hasWord yX5_hasWord]
def wsX5_readEnd_r2 : List Cond := [Cond.code yX5_hasWord cX5_hasWord 3 (some .boolean), Cond.methodLink RX5 146 yX5_isWord, Cond.instanceMethod yX5_isWord, Cond.selects RX5 yX5_isWord yX5_isWord, Cond.code yX5_isWord cX5_isWord 2 (some .boolean), Cond.fieldLink RX5 58 "StopSetterModel" "words" "[J", Cond.methodLink RX5 174 yX5_takeOneOf, Cond.instanceMethod yX5_takeOneOf, Cond.selects RX5 yX5_takeOneOf yX5_takeOneOf, Cond.code yX5_takeOneOf cX5_takeOneOf 3 (some .int), Cond.methodLink RX5 177 yX5_takeSign, Cond.instanceMethod yX5_takeSign, Cond.selects RX5 yX5_takeSign yX5_takeSign, Cond.code yX5_takeSign cX5_takeSign 2 none, Cond.methodLink RX5 139 yX5_isSign, Cond.instanceMethod yX5_isSign, Cond.selects RX5 yX5_isSign yX5_isSign, Cond.code yX5_isSign cX5_isSign 2 (some .boolean)]
def wsX5_readEnd : List Cond := .code yX5_readEnd cX5_readEnd 2 none :: ((wsX5_readEnd_r1 ++ wsX5_readEnd_r2) ++ wsX50)
def wsX5_grammar_r1 : List Cond := [Cond.fieldLink RX5 1 "StopSetterModel" "thrown" "I", Cond.fieldLink RX5 155 "StopSetterModel" "holds" "I", Cond.fieldLink RX5 158 "StopSetterModel" "next" "I", Cond.fieldLink RX5 61 "StopSetterModel" "goes" "[I", Cond.fieldLink RX5 67 "StopSetterModel" "ends" "[I", Cond.fieldLink RX5 136 "StopSetterModel" "fault" "I", Cond.fieldLink RX5 24 "StopSetterModel" "sort" "[I", Cond.fieldLink RX5 133 "StopSetterModel" "at" "I", Cond.methodLink RX5 152 yX5_cutAll, Cond.instanceMethod yX5_cutAll, Cond.selects RX5 yX5_cutAll yX5_cutAll, Cond.initialized RX5, Cond.code yX5_cutAll cX5_cutAll 7 none, Cond.fieldLink RX5 11 "StopSetterModel" "taped" "I", Cond.fieldLink RX5 114 "StopSetterModel" "size" "I", Cond.fieldLink RX5 14 "StopSetterModel" "tape" "[I", Cond.fieldLink RX5 27 "StopSetterModel" "place" "[I", Cond.constantLong RX5 117 (37), Cond.constantLong RX5 126 (10), Cond.constantLong RX5 128 (48), Cond.fieldLink RX5 30 "StopSetterModel" "value" "[J", Cond.methodLink RX5 110 yX5_isLetter, Cond.static yX5_isLetter, Cond.code yX5_isLetter cX5_isLetter 1 (some .boolean)]
def wsX5_grammar_r2 : List Cond := [Cond.methodLink RX5 119 yX5_rank, Cond.static yX5_rank, Cond.code yX5_rank cX5_rank 1 (some .int), Cond.methodLink RX5 123 yX5_isDigit, Cond.static yX5_isDigit, Cond.code yX5_isDigit cX5_isDigit 1 (some .boolean), Cond.methodLink RX5 130 yX5_isSignOf, Cond.static yX5_isSignOf, Cond.code yX5_isSignOf cX5_isSignOf 1 (some .boolean), Cond.methodLink RX5 146 yX5_isWord, Cond.instanceMethod yX5_isWord, Cond.selects RX5 yX5_isWord yX5_isWord, Cond.code yX5_isWord cX5_isWord 2 (some .boolean), Cond.fieldLink RX5 58 "StopSetterModel" "words" "[J", Cond.methodLink RX5 161 yX5_readGo, Cond.instanceMethod yX5_readGo, Cond.selects RX5 yX5_readGo yX5_readGo, Cond.code yX5_readGo cX5_readGo 2 none, Cond.fieldLink RX5 64 "StopSetterModel" "goLine" "[I", Cond.methodLink RX5 142 yX5_wrong, Cond.instanceMethod yX5_wrong, Cond.selects RX5 yX5_wrong yX5_wrong, Cond.code yX5_wrong cX5_wrong 2 none, Cond.methodLink RX5 167 yX5_takeNumber]
def wsX5_grammar_r3 : List Cond := [Cond.instanceMethod yX5_takeNumber, Cond.selects RX5 yX5_takeNumber yX5_takeNumber, Cond.code yX5_takeNumber cX5_takeNumber 3 (some .int), Cond.methodLink RX5 171 yX5_takeWord, Cond.instanceMethod yX5_takeWord, Cond.selects RX5 yX5_takeWord yX5_takeWord, Cond.code yX5_takeWord cX5_takeWord 2 none, Cond.methodLink RX5 149 yX5_hasWord, Cond.instanceMethod yX5_hasWord, Cond.selects RX5 yX5_hasWord yX5_hasWord, Cond.code yX5_hasWord cX5_hasWord 3 (some .boolean), Cond.methodLink RX5 174 yX5_takeOneOf, Cond.instanceMethod yX5_takeOneOf, Cond.selects RX5 yX5_takeOneOf yX5_takeOneOf, Cond.code yX5_takeOneOf cX5_takeOneOf 3 (some .int), Cond.methodLink RX5 177 yX5_takeSign, Cond.instanceMethod yX5_takeSign, Cond.selects RX5 yX5_takeSign yX5_takeSign, Cond.code yX5_takeSign cX5_takeSign 2 none, Cond.methodLink RX5 139 yX5_isSign, Cond.instanceMethod yX5_isSign, Cond.selects RX5 yX5_isSign yX5_isSign, Cond.code yX5_isSign cX5_isSign 2 (some .boolean), Cond.methodLink RX5 164 yX5_readEnd]
def wsX5_grammar_r4 : List Cond := [Cond.instanceMethod yX5_readEnd, Cond.selects RX5 yX5_readEnd yX5_readEnd, Cond.code yX5_readEnd cX5_readEnd 2 none, Cond.fieldLink RX5 70 "StopSetterModel" "endLine" "[I"]
def wsX5_grammar : List Cond := .code yX5_grammar cX5_grammar 1 (some .int) :: ((wsX5_grammar_r1 ++ (wsX5_grammar_r2 ++ (wsX5_grammar_r3 ++ wsX5_grammar_r4))) ++ wsX50)
def wsX5_goOf : List Cond := .code yX5_goOf cX5_goOf 3 (some .int) :: ([.fieldLink RX5 64 "StopSetterModel" "goLine" "[I", .fieldLink RX5 155 "StopSetterModel" "holds" "I"] ++ wsX50)
def wsX5_endOf : List Cond := .code yX5_endOf cX5_endOf 3 (some .int) :: ([.fieldLink RX5 70 "StopSetterModel" "endLine" "[I", .fieldLink RX5 155 "StopSetterModel" "holds" "I"] ++ wsX50)
def wsX5_go : List Cond := .code yX5_go cX5_go 3 (some .int) :: ([.fieldLink RX5 1 "StopSetterModel" "thrown" "I", .fieldLink RX5 61 "StopSetterModel" "goes" "[I", .fieldLink RX5 155 "StopSetterModel" "holds" "I", .methodLink RX5 180 yX5_goOf, .instanceMethod yX5_goOf, .selects RX5 yX5_goOf yX5_goOf, .initialized RX5, .code yX5_goOf cX5_goOf 3 (some .int), .fieldLink RX5 64 "StopSetterModel" "goLine" "[I"] ++ wsX50)
def wsX5_isOne : List Cond := .code yX5_isOne cX5_isOne 1 (some .boolean) :: ([])
def wsX5_kinds : List Cond := .code yX5_kinds cX5_kinds 3 (some .boolean) :: ([.fieldLink RX5 1 "StopSetterModel" "thrown" "I", .fieldLink RX5 73 "StopSetterModel" "kinds" "[I", .methodLink RX5 183 yX5_isOne, .static yX5_isOne, .initialized RX5, .code yX5_isOne cX5_isOne 1 (some .boolean)] ++ wsX50)
def wsX5_name : List Cond := .code yX5_name cX5_name 3 (some .boolean) :: ([.fieldLink RX5 1 "StopSetterModel" "thrown" "I", .fieldLink RX5 76 "StopSetterModel" "isName" "[Z", .methodLink RX5 183 yX5_isOne, .static yX5_isOne, .initialized RX5, .code yX5_isOne cX5_isOne 1 (some .boolean)] ++ wsX50)
def wsX5_word : List Cond := .code yX5_word cX5_word 2 (some .int) :: ([.fieldLink RX5 1 "StopSetterModel" "thrown" "I", .fieldLink RX5 186 "StopSetterModel" "many" "I", .fieldLink RX5 80 "StopSetterModel" "row" "[I", .fieldLink RX5 83 "StopSetterModel" "byHand" "[I", .methodLink RX5 183 yX5_isOne, .static yX5_isOne, .initialized RX5, .code yX5_isOne cX5_isOne 1 (some .boolean)] ++ wsX50)
def wsX5_drop : List Cond := .code yX5_drop cX5_drop 1 (some .int) :: ([.fieldLink RX5 1 "StopSetterModel" "thrown" "I", .fieldLink RX5 186 "StopSetterModel" "many" "I"] ++ wsX50)
def wsX5_hand : List Cond := .code yX5_hand cX5_hand 3 (some .boolean) :: ([.fieldLink RX5 1 "StopSetterModel" "thrown" "I", .fieldLink RX5 186 "StopSetterModel" "many" "I", .fieldLink RX5 83 "StopSetterModel" "byHand" "[I"] ++ wsX50)
def wsX5_stepTo : List Cond := .code yX5_stepTo cX5_stepTo 10 (some .int) :: ([.fieldLink RX5 83 "StopSetterModel" "byHand" "[I", .fieldLink RX5 73 "StopSetterModel" "kinds" "[I", .fieldLink RX5 80 "StopSetterModel" "row" "[I", .methodLink RX5 180 yX5_goOf, .instanceMethod yX5_goOf, .selects RX5 yX5_goOf yX5_goOf, .initialized RX5, .code yX5_goOf cX5_goOf 3 (some .int), .fieldLink RX5 64 "StopSetterModel" "goLine" "[I", .fieldLink RX5 155 "StopSetterModel" "holds" "I", .methodLink RX5 189 yX5_endOf, .instanceMethod yX5_endOf, .selects RX5 yX5_endOf yX5_endOf, .code yX5_endOf cX5_endOf 3 (some .int), .fieldLink RX5 70 "StopSetterModel" "endLine" "[I"] ++ wsX50)
def wsX5_costOf : List Cond := .code yX5_costOf cX5_costOf 3 (some .int) :: ([.methodLink RX5 180 yX5_goOf, .instanceMethod yX5_goOf, .selects RX5 yX5_goOf yX5_goOf, .initialized RX5, .code yX5_goOf cX5_goOf 3 (some .int), .fieldLink RX5 64 "StopSetterModel" "goLine" "[I", .fieldLink RX5 155 "StopSetterModel" "holds" "I", .methodLink RX5 189 yX5_endOf, .instanceMethod yX5_endOf, .selects RX5 yX5_endOf yX5_endOf, .code yX5_endOf cX5_endOf 3 (some .int), .fieldLink RX5 70 "StopSetterModel" "endLine" "[I"] ++ wsX50)
def wsX5_offers : List Cond := .code yX5_offers cX5_offers 3 none :: ([.fieldLink RX5 86 "StopSetterModel" "least" "[I", .fieldLink RX5 89 "StopSetterModel" "second" "[I"] ++ wsX50)
def wsX5_adds : List Cond := .code yX5_adds cX5_adds 4 none :: ([.fieldLink RX5 86 "StopSetterModel" "least" "[I", .constant RX5 192 (1000000), .fieldLink RX5 89 "StopSetterModel" "second" "[I", .methodLink RX5 204 yX5_offers, .instanceMethod yX5_offers, .selects RX5 yX5_offers yX5_offers, .initialized RX5, .code yX5_offers cX5_offers 3 none] ++ wsX50)
def wsX5_laysOut_r1 : List Cond := [Cond.fieldLink RX5 186 "StopSetterModel" "many" "I", Cond.fieldLink RX5 86 "StopSetterModel" "least" "[I", Cond.constant RX5 192 (1000000), Cond.fieldLink RX5 89 "StopSetterModel" "second" "[I", Cond.fieldLink RX5 67 "StopSetterModel" "ends" "[I", Cond.fieldLink RX5 155 "StopSetterModel" "holds" "I", Cond.fieldLink RX5 61 "StopSetterModel" "goes" "[I", Cond.methodLink RX5 193 yX5_stepTo, Cond.instanceMethod yX5_stepTo, Cond.selects RX5 yX5_stepTo yX5_stepTo, Cond.initialized RX5, Cond.code yX5_stepTo cX5_stepTo 10 (some .int), Cond.fieldLink RX5 83 "StopSetterModel" "byHand" "[I", Cond.fieldLink RX5 73 "StopSetterModel" "kinds" "[I", Cond.fieldLink RX5 80 "StopSetterModel" "row" "[I", Cond.methodLink RX5 180 yX5_goOf, Cond.instanceMethod yX5_goOf, Cond.selects RX5 yX5_goOf yX5_goOf, Cond.code yX5_goOf cX5_goOf 3 (some .int), Cond.fieldLink RX5 64 "StopSetterModel" "goLine" "[I", Cond.methodLink RX5 189 yX5_endOf, Cond.instanceMethod yX5_endOf, Cond.selects RX5 yX5_endOf yX5_endOf, Cond.code yX5_endOf cX5_endOf 3 (some .int)]
def wsX5_laysOut_r2 : List Cond := [Cond.fieldLink RX5 70 "StopSetterModel" "endLine" "[I", Cond.methodLink RX5 197 yX5_costOf, Cond.instanceMethod yX5_costOf, Cond.selects RX5 yX5_costOf yX5_costOf, Cond.code yX5_costOf cX5_costOf 3 (some .int), Cond.methodLink RX5 200 yX5_adds, Cond.instanceMethod yX5_adds, Cond.selects RX5 yX5_adds yX5_adds, Cond.code yX5_adds cX5_adds 4 none, Cond.methodLink RX5 204 yX5_offers, Cond.instanceMethod yX5_offers, Cond.selects RX5 yX5_offers yX5_offers, Cond.code yX5_offers cX5_offers 3 none]
def wsX5_laysOut : List Cond := .code yX5_laysOut cX5_laysOut 7 none :: ((wsX5_laysOut_r1 ++ wsX5_laysOut_r2) ++ wsX50)
def wsX5_laysOutEnds_r1 : List Cond := [Cond.fieldLink RX5 186 "StopSetterModel" "many" "I", Cond.fieldLink RX5 86 "StopSetterModel" "least" "[I", Cond.constant RX5 192 (1000000), Cond.fieldLink RX5 89 "StopSetterModel" "second" "[I", Cond.fieldLink RX5 67 "StopSetterModel" "ends" "[I", Cond.fieldLink RX5 155 "StopSetterModel" "holds" "I", Cond.methodLink RX5 189 yX5_endOf, Cond.instanceMethod yX5_endOf, Cond.selects RX5 yX5_endOf yX5_endOf, Cond.initialized RX5, Cond.code yX5_endOf cX5_endOf 3 (some .int), Cond.fieldLink RX5 70 "StopSetterModel" "endLine" "[I", Cond.methodLink RX5 204 yX5_offers, Cond.instanceMethod yX5_offers, Cond.selects RX5 yX5_offers yX5_offers, Cond.code yX5_offers cX5_offers 3 none, Cond.methodLink RX5 208 yX5_laysOut, Cond.instanceMethod yX5_laysOut, Cond.selects RX5 yX5_laysOut yX5_laysOut, Cond.code yX5_laysOut cX5_laysOut 7 none, Cond.fieldLink RX5 61 "StopSetterModel" "goes" "[I", Cond.methodLink RX5 193 yX5_stepTo, Cond.instanceMethod yX5_stepTo, Cond.selects RX5 yX5_stepTo yX5_stepTo]
def wsX5_laysOutEnds_r2 : List Cond := [Cond.code yX5_stepTo cX5_stepTo 10 (some .int), Cond.fieldLink RX5 83 "StopSetterModel" "byHand" "[I", Cond.fieldLink RX5 73 "StopSetterModel" "kinds" "[I", Cond.fieldLink RX5 80 "StopSetterModel" "row" "[I", Cond.methodLink RX5 180 yX5_goOf, Cond.instanceMethod yX5_goOf, Cond.selects RX5 yX5_goOf yX5_goOf, Cond.code yX5_goOf cX5_goOf 3 (some .int), Cond.fieldLink RX5 64 "StopSetterModel" "goLine" "[I", Cond.methodLink RX5 197 yX5_costOf, Cond.instanceMethod yX5_costOf, Cond.selects RX5 yX5_costOf yX5_costOf, Cond.code yX5_costOf cX5_costOf 3 (some .int), Cond.methodLink RX5 200 yX5_adds, Cond.instanceMethod yX5_adds, Cond.selects RX5 yX5_adds yX5_adds, Cond.code yX5_adds cX5_adds 4 none]
def wsX5_laysOutEnds : List Cond := .code yX5_laysOutEnds cX5_laysOutEnds 4 none :: ((wsX5_laysOutEnds_r1 ++ wsX5_laysOutEnds_r2) ++ wsX50)
def wsX5_goesFrom_r1 : List Cond := [Cond.fieldLink RX5 86 "StopSetterModel" "least" "[I", Cond.constant RX5 192 (1000000), Cond.fieldLink RX5 186 "StopSetterModel" "many" "I", Cond.fieldLink RX5 95 "StopSetterModel" "goAt" "[I", Cond.fieldLink RX5 67 "StopSetterModel" "ends" "[I", Cond.fieldLink RX5 155 "StopSetterModel" "holds" "I", Cond.fieldLink RX5 61 "StopSetterModel" "goes" "[I", Cond.fieldLink RX5 92 "StopSetterModel" "endAt" "[I", Cond.fieldLink RX5 98 "StopSetterModel" "nodeBehind" "[I", Cond.methodLink RX5 193 yX5_stepTo, Cond.instanceMethod yX5_stepTo, Cond.selects RX5 yX5_stepTo yX5_stepTo, Cond.initialized RX5, Cond.code yX5_stepTo cX5_stepTo 10 (some .int), Cond.fieldLink RX5 83 "StopSetterModel" "byHand" "[I", Cond.fieldLink RX5 73 "StopSetterModel" "kinds" "[I", Cond.fieldLink RX5 80 "StopSetterModel" "row" "[I", Cond.methodLink RX5 180 yX5_goOf, Cond.instanceMethod yX5_goOf, Cond.selects RX5 yX5_goOf yX5_goOf, Cond.code yX5_goOf cX5_goOf 3 (some .int), Cond.fieldLink RX5 64 "StopSetterModel" "goLine" "[I", Cond.methodLink RX5 189 yX5_endOf, Cond.instanceMethod yX5_endOf]
def wsX5_goesFrom_r2 : List Cond := [Cond.selects RX5 yX5_endOf yX5_endOf, Cond.code yX5_endOf cX5_endOf 3 (some .int), Cond.fieldLink RX5 70 "StopSetterModel" "endLine" "[I", Cond.methodLink RX5 197 yX5_costOf, Cond.instanceMethod yX5_costOf, Cond.selects RX5 yX5_costOf yX5_costOf, Cond.code yX5_costOf cX5_costOf 3 (some .int)]
def wsX5_goesFrom : List Cond := .code yX5_goesFrom cX5_goesFrom 6 (some .boolean) :: ((wsX5_goesFrom_r1 ++ wsX5_goesFrom_r2) ++ wsX50)
def wsX5_parts_r1 : List Cond := [Cond.fieldLink RX5 186 "StopSetterModel" "many" "I", Cond.fieldLink RX5 218 "StopSetterModel" "lastEnd" "I", Cond.fieldLink RX5 67 "StopSetterModel" "ends" "[I", Cond.fieldLink RX5 155 "StopSetterModel" "holds" "I", Cond.fieldLink RX5 98 "StopSetterModel" "nodeBehind" "[I", Cond.fieldLink RX5 86 "StopSetterModel" "least" "[I", Cond.methodLink RX5 211 yX5_laysOutEnds, Cond.instanceMethod yX5_laysOutEnds, Cond.selects RX5 yX5_laysOutEnds yX5_laysOutEnds, Cond.initialized RX5, Cond.code yX5_laysOutEnds cX5_laysOutEnds 4 none, Cond.constant RX5 192 (1000000), Cond.fieldLink RX5 89 "StopSetterModel" "second" "[I", Cond.methodLink RX5 189 yX5_endOf, Cond.instanceMethod yX5_endOf, Cond.selects RX5 yX5_endOf yX5_endOf, Cond.code yX5_endOf cX5_endOf 3 (some .int), Cond.fieldLink RX5 70 "StopSetterModel" "endLine" "[I", Cond.methodLink RX5 204 yX5_offers, Cond.instanceMethod yX5_offers, Cond.selects RX5 yX5_offers yX5_offers, Cond.code yX5_offers cX5_offers 3 none, Cond.methodLink RX5 208 yX5_laysOut, Cond.instanceMethod yX5_laysOut]
def wsX5_parts_r2 : List Cond := [Cond.selects RX5 yX5_laysOut yX5_laysOut, Cond.code yX5_laysOut cX5_laysOut 7 none, Cond.fieldLink RX5 61 "StopSetterModel" "goes" "[I", Cond.methodLink RX5 193 yX5_stepTo, Cond.instanceMethod yX5_stepTo, Cond.selects RX5 yX5_stepTo yX5_stepTo, Cond.code yX5_stepTo cX5_stepTo 10 (some .int), Cond.fieldLink RX5 83 "StopSetterModel" "byHand" "[I", Cond.fieldLink RX5 73 "StopSetterModel" "kinds" "[I", Cond.fieldLink RX5 80 "StopSetterModel" "row" "[I", Cond.methodLink RX5 180 yX5_goOf, Cond.instanceMethod yX5_goOf, Cond.selects RX5 yX5_goOf yX5_goOf, Cond.code yX5_goOf cX5_goOf 3 (some .int), Cond.fieldLink RX5 64 "StopSetterModel" "goLine" "[I", Cond.methodLink RX5 197 yX5_costOf, Cond.instanceMethod yX5_costOf, Cond.selects RX5 yX5_costOf yX5_costOf, Cond.code yX5_costOf cX5_costOf 3 (some .int), Cond.methodLink RX5 200 yX5_adds, Cond.instanceMethod yX5_adds, Cond.selects RX5 yX5_adds yX5_adds, Cond.code yX5_adds cX5_adds 4 none, Cond.methodLink RX5 214 yX5_goesFrom]
def wsX5_parts_r3 : List Cond := [Cond.instanceMethod yX5_goesFrom, Cond.selects RX5 yX5_goesFrom yX5_goesFrom, Cond.code yX5_goesFrom cX5_goesFrom 6 (some .boolean), Cond.fieldLink RX5 95 "StopSetterModel" "goAt" "[I", Cond.fieldLink RX5 92 "StopSetterModel" "endAt" "[I"]
def wsX5_parts : List Cond := .code yX5_parts cX5_parts 4 (some .boolean) :: ((wsX5_parts_r1 ++ (wsX5_parts_r2 ++ wsX5_parts_r3)) ++ wsX50)
def wsX5_cost_r1 : List Cond := [Cond.fieldLink RX5 1 "StopSetterModel" "thrown" "I", Cond.fieldLink RX5 86 "StopSetterModel" "least" "[I", Cond.methodLink RX5 221 yX5_parts, Cond.instanceMethod yX5_parts, Cond.selects RX5 yX5_parts yX5_parts, Cond.initialized RX5, Cond.code yX5_parts cX5_parts 4 (some .boolean), Cond.fieldLink RX5 186 "StopSetterModel" "many" "I", Cond.fieldLink RX5 218 "StopSetterModel" "lastEnd" "I", Cond.fieldLink RX5 67 "StopSetterModel" "ends" "[I", Cond.fieldLink RX5 155 "StopSetterModel" "holds" "I", Cond.fieldLink RX5 98 "StopSetterModel" "nodeBehind" "[I", Cond.methodLink RX5 211 yX5_laysOutEnds, Cond.instanceMethod yX5_laysOutEnds, Cond.selects RX5 yX5_laysOutEnds yX5_laysOutEnds, Cond.code yX5_laysOutEnds cX5_laysOutEnds 4 none, Cond.constant RX5 192 (1000000), Cond.fieldLink RX5 89 "StopSetterModel" "second" "[I", Cond.methodLink RX5 189 yX5_endOf, Cond.instanceMethod yX5_endOf, Cond.selects RX5 yX5_endOf yX5_endOf, Cond.code yX5_endOf cX5_endOf 3 (some .int), Cond.fieldLink RX5 70 "StopSetterModel" "endLine" "[I", Cond.methodLink RX5 204 yX5_offers]
def wsX5_cost_r2 : List Cond := [Cond.instanceMethod yX5_offers, Cond.selects RX5 yX5_offers yX5_offers, Cond.code yX5_offers cX5_offers 3 none, Cond.methodLink RX5 208 yX5_laysOut, Cond.instanceMethod yX5_laysOut, Cond.selects RX5 yX5_laysOut yX5_laysOut, Cond.code yX5_laysOut cX5_laysOut 7 none, Cond.fieldLink RX5 61 "StopSetterModel" "goes" "[I", Cond.methodLink RX5 193 yX5_stepTo, Cond.instanceMethod yX5_stepTo, Cond.selects RX5 yX5_stepTo yX5_stepTo, Cond.code yX5_stepTo cX5_stepTo 10 (some .int), Cond.fieldLink RX5 83 "StopSetterModel" "byHand" "[I", Cond.fieldLink RX5 73 "StopSetterModel" "kinds" "[I", Cond.fieldLink RX5 80 "StopSetterModel" "row" "[I", Cond.methodLink RX5 180 yX5_goOf, Cond.instanceMethod yX5_goOf, Cond.selects RX5 yX5_goOf yX5_goOf, Cond.code yX5_goOf cX5_goOf 3 (some .int), Cond.fieldLink RX5 64 "StopSetterModel" "goLine" "[I", Cond.methodLink RX5 197 yX5_costOf, Cond.instanceMethod yX5_costOf, Cond.selects RX5 yX5_costOf yX5_costOf, Cond.code yX5_costOf cX5_costOf 3 (some .int)]
def wsX5_cost_r3 : List Cond := [Cond.methodLink RX5 200 yX5_adds, Cond.instanceMethod yX5_adds, Cond.selects RX5 yX5_adds yX5_adds, Cond.code yX5_adds cX5_adds 4 none, Cond.methodLink RX5 214 yX5_goesFrom, Cond.instanceMethod yX5_goesFrom, Cond.selects RX5 yX5_goesFrom yX5_goesFrom, Cond.code yX5_goesFrom cX5_goesFrom 6 (some .boolean), Cond.fieldLink RX5 95 "StopSetterModel" "goAt" "[I", Cond.fieldLink RX5 92 "StopSetterModel" "endAt" "[I"]
def wsX5_cost : List Cond := .code yX5_cost cX5_cost 1 (some .int) :: ((wsX5_cost_r1 ++ (wsX5_cost_r2 ++ wsX5_cost_r3)) ++ wsX50)
def wsX5_second_r1 : List Cond := [Cond.fieldLink RX5 1 "StopSetterModel" "thrown" "I", Cond.fieldLink RX5 89 "StopSetterModel" "second" "[I", Cond.constant RX5 192 (1000000), Cond.methodLink RX5 221 yX5_parts, Cond.instanceMethod yX5_parts, Cond.selects RX5 yX5_parts yX5_parts, Cond.initialized RX5, Cond.code yX5_parts cX5_parts 4 (some .boolean), Cond.fieldLink RX5 186 "StopSetterModel" "many" "I", Cond.fieldLink RX5 218 "StopSetterModel" "lastEnd" "I", Cond.fieldLink RX5 67 "StopSetterModel" "ends" "[I", Cond.fieldLink RX5 155 "StopSetterModel" "holds" "I", Cond.fieldLink RX5 98 "StopSetterModel" "nodeBehind" "[I", Cond.fieldLink RX5 86 "StopSetterModel" "least" "[I", Cond.methodLink RX5 211 yX5_laysOutEnds, Cond.instanceMethod yX5_laysOutEnds, Cond.selects RX5 yX5_laysOutEnds yX5_laysOutEnds, Cond.code yX5_laysOutEnds cX5_laysOutEnds 4 none, Cond.methodLink RX5 189 yX5_endOf, Cond.instanceMethod yX5_endOf, Cond.selects RX5 yX5_endOf yX5_endOf, Cond.code yX5_endOf cX5_endOf 3 (some .int), Cond.fieldLink RX5 70 "StopSetterModel" "endLine" "[I", Cond.methodLink RX5 204 yX5_offers]
def wsX5_second_r2 : List Cond := [Cond.instanceMethod yX5_offers, Cond.selects RX5 yX5_offers yX5_offers, Cond.code yX5_offers cX5_offers 3 none, Cond.methodLink RX5 208 yX5_laysOut, Cond.instanceMethod yX5_laysOut, Cond.selects RX5 yX5_laysOut yX5_laysOut, Cond.code yX5_laysOut cX5_laysOut 7 none, Cond.fieldLink RX5 61 "StopSetterModel" "goes" "[I", Cond.methodLink RX5 193 yX5_stepTo, Cond.instanceMethod yX5_stepTo, Cond.selects RX5 yX5_stepTo yX5_stepTo, Cond.code yX5_stepTo cX5_stepTo 10 (some .int), Cond.fieldLink RX5 83 "StopSetterModel" "byHand" "[I", Cond.fieldLink RX5 73 "StopSetterModel" "kinds" "[I", Cond.fieldLink RX5 80 "StopSetterModel" "row" "[I", Cond.methodLink RX5 180 yX5_goOf, Cond.instanceMethod yX5_goOf, Cond.selects RX5 yX5_goOf yX5_goOf, Cond.code yX5_goOf cX5_goOf 3 (some .int), Cond.fieldLink RX5 64 "StopSetterModel" "goLine" "[I", Cond.methodLink RX5 197 yX5_costOf, Cond.instanceMethod yX5_costOf, Cond.selects RX5 yX5_costOf yX5_costOf, Cond.code yX5_costOf cX5_costOf 3 (some .int)]
def wsX5_second_r3 : List Cond := [Cond.methodLink RX5 200 yX5_adds, Cond.instanceMethod yX5_adds, Cond.selects RX5 yX5_adds yX5_adds, Cond.code yX5_adds cX5_adds 4 none, Cond.methodLink RX5 214 yX5_goesFrom, Cond.instanceMethod yX5_goesFrom, Cond.selects RX5 yX5_goesFrom yX5_goesFrom, Cond.code yX5_goesFrom cX5_goesFrom 6 (some .boolean), Cond.fieldLink RX5 95 "StopSetterModel" "goAt" "[I", Cond.fieldLink RX5 92 "StopSetterModel" "endAt" "[I"]
def wsX5_second : List Cond := .code yX5_second cX5_second 1 (some .int) :: ((wsX5_second_r1 ++ (wsX5_second_r2 ++ wsX5_second_r3)) ++ wsX50)
def wsX5_isRaised : List Cond := .code yX5_isRaised cX5_isRaised 3 (some .boolean) :: ([.fieldLink RX5 92 "StopSetterModel" "endAt" "[I", .fieldLink RX5 76 "StopSetterModel" "isName" "[Z", .fieldLink RX5 80 "StopSetterModel" "row" "[I", .fieldLink RX5 95 "StopSetterModel" "goAt" "[I", .methodLink RX5 189 yX5_endOf, .instanceMethod yX5_endOf, .selects RX5 yX5_endOf yX5_endOf, .initialized RX5, .code yX5_endOf cX5_endOf 3 (some .int), .fieldLink RX5 70 "StopSetterModel" "endLine" "[I", .fieldLink RX5 155 "StopSetterModel" "holds" "I", .methodLink RX5 180 yX5_goOf, .instanceMethod yX5_goOf, .selects RX5 yX5_goOf yX5_goOf, .code yX5_goOf cX5_goOf 3 (some .int), .fieldLink RX5 64 "StopSetterModel" "goLine" "[I"] ++ wsX50)
def wsX5_look_r1 : List Cond := [Cond.fieldLink RX5 186 "StopSetterModel" "many" "I", Cond.fieldLink RX5 1 "StopSetterModel" "thrown" "I", Cond.fieldLink RX5 92 "StopSetterModel" "endAt" "[I", Cond.fieldLink RX5 95 "StopSetterModel" "goAt" "[I", Cond.fieldLink RX5 98 "StopSetterModel" "nodeBehind" "[I", Cond.methodLink RX5 221 yX5_parts, Cond.instanceMethod yX5_parts, Cond.selects RX5 yX5_parts yX5_parts, Cond.initialized RX5, Cond.code yX5_parts cX5_parts 4 (some .boolean), Cond.fieldLink RX5 218 "StopSetterModel" "lastEnd" "I", Cond.fieldLink RX5 67 "StopSetterModel" "ends" "[I", Cond.fieldLink RX5 155 "StopSetterModel" "holds" "I", Cond.fieldLink RX5 86 "StopSetterModel" "least" "[I", Cond.methodLink RX5 211 yX5_laysOutEnds, Cond.instanceMethod yX5_laysOutEnds, Cond.selects RX5 yX5_laysOutEnds yX5_laysOutEnds, Cond.code yX5_laysOutEnds cX5_laysOutEnds 4 none, Cond.constant RX5 192 (1000000), Cond.fieldLink RX5 89 "StopSetterModel" "second" "[I", Cond.methodLink RX5 189 yX5_endOf, Cond.instanceMethod yX5_endOf, Cond.selects RX5 yX5_endOf yX5_endOf, Cond.code yX5_endOf cX5_endOf 3 (some .int)]
def wsX5_look_r2 : List Cond := [Cond.fieldLink RX5 70 "StopSetterModel" "endLine" "[I", Cond.methodLink RX5 204 yX5_offers, Cond.instanceMethod yX5_offers, Cond.selects RX5 yX5_offers yX5_offers, Cond.code yX5_offers cX5_offers 3 none, Cond.methodLink RX5 208 yX5_laysOut, Cond.instanceMethod yX5_laysOut, Cond.selects RX5 yX5_laysOut yX5_laysOut, Cond.code yX5_laysOut cX5_laysOut 7 none, Cond.fieldLink RX5 61 "StopSetterModel" "goes" "[I", Cond.methodLink RX5 193 yX5_stepTo, Cond.instanceMethod yX5_stepTo, Cond.selects RX5 yX5_stepTo yX5_stepTo, Cond.code yX5_stepTo cX5_stepTo 10 (some .int), Cond.fieldLink RX5 83 "StopSetterModel" "byHand" "[I", Cond.fieldLink RX5 73 "StopSetterModel" "kinds" "[I", Cond.fieldLink RX5 80 "StopSetterModel" "row" "[I", Cond.methodLink RX5 180 yX5_goOf, Cond.instanceMethod yX5_goOf, Cond.selects RX5 yX5_goOf yX5_goOf, Cond.code yX5_goOf cX5_goOf 3 (some .int), Cond.fieldLink RX5 64 "StopSetterModel" "goLine" "[I", Cond.methodLink RX5 197 yX5_costOf, Cond.instanceMethod yX5_costOf]
def wsX5_look_r3 : List Cond := [Cond.selects RX5 yX5_costOf yX5_costOf, Cond.code yX5_costOf cX5_costOf 3 (some .int), Cond.methodLink RX5 200 yX5_adds, Cond.instanceMethod yX5_adds, Cond.selects RX5 yX5_adds yX5_adds, Cond.code yX5_adds cX5_adds 4 none, Cond.methodLink RX5 214 yX5_goesFrom, Cond.instanceMethod yX5_goesFrom, Cond.selects RX5 yX5_goesFrom yX5_goesFrom, Cond.code yX5_goesFrom cX5_goesFrom 6 (some .boolean), Cond.methodLink RX5 224 yX5_isRaised, Cond.instanceMethod yX5_isRaised, Cond.selects RX5 yX5_isRaised yX5_isRaised, Cond.code yX5_isRaised cX5_isRaised 3 (some .boolean), Cond.fieldLink RX5 76 "StopSetterModel" "isName" "[Z"]
def wsX5_look : List Cond := .code yX5_look cX5_look 3 (some .int) :: ((wsX5_look_r1 ++ (wsX5_look_r2 ++ wsX5_look_r3)) ++ wsX50)
def wsX5_last_r1 : List Cond := [Cond.fieldLink RX5 1 "StopSetterModel" "thrown" "I", Cond.fieldLink RX5 218 "StopSetterModel" "lastEnd" "I", Cond.methodLink RX5 221 yX5_parts, Cond.instanceMethod yX5_parts, Cond.selects RX5 yX5_parts yX5_parts, Cond.initialized RX5, Cond.code yX5_parts cX5_parts 4 (some .boolean), Cond.fieldLink RX5 186 "StopSetterModel" "many" "I", Cond.fieldLink RX5 67 "StopSetterModel" "ends" "[I", Cond.fieldLink RX5 155 "StopSetterModel" "holds" "I", Cond.fieldLink RX5 98 "StopSetterModel" "nodeBehind" "[I", Cond.fieldLink RX5 86 "StopSetterModel" "least" "[I", Cond.methodLink RX5 211 yX5_laysOutEnds, Cond.instanceMethod yX5_laysOutEnds, Cond.selects RX5 yX5_laysOutEnds yX5_laysOutEnds, Cond.code yX5_laysOutEnds cX5_laysOutEnds 4 none, Cond.constant RX5 192 (1000000), Cond.fieldLink RX5 89 "StopSetterModel" "second" "[I", Cond.methodLink RX5 189 yX5_endOf, Cond.instanceMethod yX5_endOf, Cond.selects RX5 yX5_endOf yX5_endOf, Cond.code yX5_endOf cX5_endOf 3 (some .int), Cond.fieldLink RX5 70 "StopSetterModel" "endLine" "[I", Cond.methodLink RX5 204 yX5_offers]
def wsX5_last_r2 : List Cond := [Cond.instanceMethod yX5_offers, Cond.selects RX5 yX5_offers yX5_offers, Cond.code yX5_offers cX5_offers 3 none, Cond.methodLink RX5 208 yX5_laysOut, Cond.instanceMethod yX5_laysOut, Cond.selects RX5 yX5_laysOut yX5_laysOut, Cond.code yX5_laysOut cX5_laysOut 7 none, Cond.fieldLink RX5 61 "StopSetterModel" "goes" "[I", Cond.methodLink RX5 193 yX5_stepTo, Cond.instanceMethod yX5_stepTo, Cond.selects RX5 yX5_stepTo yX5_stepTo, Cond.code yX5_stepTo cX5_stepTo 10 (some .int), Cond.fieldLink RX5 83 "StopSetterModel" "byHand" "[I", Cond.fieldLink RX5 73 "StopSetterModel" "kinds" "[I", Cond.fieldLink RX5 80 "StopSetterModel" "row" "[I", Cond.methodLink RX5 180 yX5_goOf, Cond.instanceMethod yX5_goOf, Cond.selects RX5 yX5_goOf yX5_goOf, Cond.code yX5_goOf cX5_goOf 3 (some .int), Cond.fieldLink RX5 64 "StopSetterModel" "goLine" "[I", Cond.methodLink RX5 197 yX5_costOf, Cond.instanceMethod yX5_costOf, Cond.selects RX5 yX5_costOf yX5_costOf, Cond.code yX5_costOf cX5_costOf 3 (some .int)]
def wsX5_last_r3 : List Cond := [Cond.methodLink RX5 200 yX5_adds, Cond.instanceMethod yX5_adds, Cond.selects RX5 yX5_adds yX5_adds, Cond.code yX5_adds cX5_adds 4 none, Cond.methodLink RX5 214 yX5_goesFrom, Cond.instanceMethod yX5_goesFrom, Cond.selects RX5 yX5_goesFrom yX5_goesFrom, Cond.code yX5_goesFrom cX5_goesFrom 6 (some .boolean), Cond.fieldLink RX5 95 "StopSetterModel" "goAt" "[I", Cond.fieldLink RX5 92 "StopSetterModel" "endAt" "[I"]
def wsX5_last : List Cond := .code yX5_last cX5_last 1 (some .int) :: ((wsX5_last_r1 ++ (wsX5_last_r2 ++ wsX5_last_r3)) ++ wsX50)
def wsX5_sentences_r1 : List Cond := [Cond.fieldLink RX5 1 "StopSetterModel" "thrown" "I", Cond.fieldLink RX5 186 "StopSetterModel" "many" "I", Cond.fieldLink RX5 92 "StopSetterModel" "endAt" "[I", Cond.methodLink RX5 221 yX5_parts, Cond.instanceMethod yX5_parts, Cond.selects RX5 yX5_parts yX5_parts, Cond.initialized RX5, Cond.code yX5_parts cX5_parts 4 (some .boolean), Cond.fieldLink RX5 218 "StopSetterModel" "lastEnd" "I", Cond.fieldLink RX5 67 "StopSetterModel" "ends" "[I", Cond.fieldLink RX5 155 "StopSetterModel" "holds" "I", Cond.fieldLink RX5 98 "StopSetterModel" "nodeBehind" "[I", Cond.fieldLink RX5 86 "StopSetterModel" "least" "[I", Cond.methodLink RX5 211 yX5_laysOutEnds, Cond.instanceMethod yX5_laysOutEnds, Cond.selects RX5 yX5_laysOutEnds yX5_laysOutEnds, Cond.code yX5_laysOutEnds cX5_laysOutEnds 4 none, Cond.constant RX5 192 (1000000), Cond.fieldLink RX5 89 "StopSetterModel" "second" "[I", Cond.methodLink RX5 189 yX5_endOf, Cond.instanceMethod yX5_endOf, Cond.selects RX5 yX5_endOf yX5_endOf, Cond.code yX5_endOf cX5_endOf 3 (some .int), Cond.fieldLink RX5 70 "StopSetterModel" "endLine" "[I"]
def wsX5_sentences_r2 : List Cond := [Cond.methodLink RX5 204 yX5_offers, Cond.instanceMethod yX5_offers, Cond.selects RX5 yX5_offers yX5_offers, Cond.code yX5_offers cX5_offers 3 none, Cond.methodLink RX5 208 yX5_laysOut, Cond.instanceMethod yX5_laysOut, Cond.selects RX5 yX5_laysOut yX5_laysOut, Cond.code yX5_laysOut cX5_laysOut 7 none, Cond.fieldLink RX5 61 "StopSetterModel" "goes" "[I", Cond.methodLink RX5 193 yX5_stepTo, Cond.instanceMethod yX5_stepTo, Cond.selects RX5 yX5_stepTo yX5_stepTo, Cond.code yX5_stepTo cX5_stepTo 10 (some .int), Cond.fieldLink RX5 83 "StopSetterModel" "byHand" "[I", Cond.fieldLink RX5 73 "StopSetterModel" "kinds" "[I", Cond.fieldLink RX5 80 "StopSetterModel" "row" "[I", Cond.methodLink RX5 180 yX5_goOf, Cond.instanceMethod yX5_goOf, Cond.selects RX5 yX5_goOf yX5_goOf, Cond.code yX5_goOf cX5_goOf 3 (some .int), Cond.fieldLink RX5 64 "StopSetterModel" "goLine" "[I", Cond.methodLink RX5 197 yX5_costOf, Cond.instanceMethod yX5_costOf, Cond.selects RX5 yX5_costOf yX5_costOf]
def wsX5_sentences_r3 : List Cond := [Cond.code yX5_costOf cX5_costOf 3 (some .int), Cond.methodLink RX5 200 yX5_adds, Cond.instanceMethod yX5_adds, Cond.selects RX5 yX5_adds yX5_adds, Cond.code yX5_adds cX5_adds 4 none, Cond.methodLink RX5 214 yX5_goesFrom, Cond.instanceMethod yX5_goesFrom, Cond.selects RX5 yX5_goesFrom yX5_goesFrom, Cond.code yX5_goesFrom cX5_goesFrom 6 (some .boolean), Cond.fieldLink RX5 95 "StopSetterModel" "goAt" "[I"]
def wsX5_sentences : List Cond := .code yX5_sentences cX5_sentences 3 (some .int) :: ((wsX5_sentences_r1 ++ (wsX5_sentences_r2 ++ wsX5_sentences_r3)) ++ wsX50)
def wsX5_leadsOut : List Cond := .code yX5_leadsOut cX5_leadsOut 6 (some .boolean) :: ([.fieldLink RX5 101 "StopSetterModel" "isOut" "[Z", .methodLink RX5 180 yX5_goOf, .instanceMethod yX5_goOf, .selects RX5 yX5_goOf yX5_goOf, .initialized RX5, .code yX5_goOf cX5_goOf 3 (some .int), .fieldLink RX5 64 "StopSetterModel" "goLine" "[I", .fieldLink RX5 155 "StopSetterModel" "holds" "I"] ++ wsX50)
def wsX5_findOut : List Cond := .code yX5_findOut cX5_findOut 5 none :: ([.fieldLink RX5 101 "StopSetterModel" "isOut" "[Z", .fieldLink RX5 67 "StopSetterModel" "ends" "[I", .fieldLink RX5 155 "StopSetterModel" "holds" "I", .fieldLink RX5 61 "StopSetterModel" "goes" "[I", .methodLink RX5 189 yX5_endOf, .instanceMethod yX5_endOf, .selects RX5 yX5_endOf yX5_endOf, .initialized RX5, .code yX5_endOf cX5_endOf 3 (some .int), .fieldLink RX5 70 "StopSetterModel" "endLine" "[I", .methodLink RX5 227 yX5_leadsOut, .instanceMethod yX5_leadsOut, .selects RX5 yX5_leadsOut yX5_leadsOut, .code yX5_leadsOut cX5_leadsOut 6 (some .boolean), .methodLink RX5 180 yX5_goOf, .instanceMethod yX5_goOf, .selects RX5 yX5_goOf yX5_goOf, .code yX5_goOf cX5_goOf 3 (some .int), .fieldLink RX5 64 "StopSetterModel" "goLine" "[I"] ++ wsX50)
def wsX5_keeps : List Cond := .code yX5_keeps cX5_keeps 2 (some .int) :: ([.fieldLink RX5 186 "StopSetterModel" "many" "I", .fieldLink RX5 104 "StopSetterModel" "firstEnd" "[I", .fieldLink RX5 92 "StopSetterModel" "endAt" "[I", .fieldLink RX5 107 "StopSetterModel" "firstGo" "[I", .fieldLink RX5 95 "StopSetterModel" "goAt" "[I"] ++ wsX50)
def wsX5_alike : List Cond := .code yX5_alike cX5_alike 3 (some .int) :: ([.fieldLink RX5 104 "StopSetterModel" "firstEnd" "[I", .fieldLink RX5 92 "StopSetterModel" "endAt" "[I", .fieldLink RX5 107 "StopSetterModel" "firstGo" "[I", .fieldLink RX5 95 "StopSetterModel" "goAt" "[I"] ++ wsX50)
def wsX5_settled_r1 : List Cond := [Cond.fieldLink RX5 1 "StopSetterModel" "thrown" "I", Cond.fieldLink RX5 86 "StopSetterModel" "least" "[I", Cond.fieldLink RX5 186 "StopSetterModel" "many" "I", Cond.constant RX5 192 (1000000), Cond.fieldLink RX5 89 "StopSetterModel" "second" "[I", Cond.fieldLink RX5 101 "StopSetterModel" "isOut" "[Z", Cond.methodLink RX5 231 yX5_findOut, Cond.instanceMethod yX5_findOut, Cond.selects RX5 yX5_findOut yX5_findOut, Cond.initialized RX5, Cond.code yX5_findOut cX5_findOut 5 none, Cond.fieldLink RX5 67 "StopSetterModel" "ends" "[I", Cond.fieldLink RX5 155 "StopSetterModel" "holds" "I", Cond.fieldLink RX5 61 "StopSetterModel" "goes" "[I", Cond.methodLink RX5 189 yX5_endOf, Cond.instanceMethod yX5_endOf, Cond.selects RX5 yX5_endOf yX5_endOf, Cond.code yX5_endOf cX5_endOf 3 (some .int), Cond.fieldLink RX5 70 "StopSetterModel" "endLine" "[I", Cond.methodLink RX5 227 yX5_leadsOut, Cond.instanceMethod yX5_leadsOut, Cond.selects RX5 yX5_leadsOut yX5_leadsOut, Cond.code yX5_leadsOut cX5_leadsOut 6 (some .boolean), Cond.methodLink RX5 180 yX5_goOf]
def wsX5_settled_r2 : List Cond := [Cond.instanceMethod yX5_goOf, Cond.selects RX5 yX5_goOf yX5_goOf, Cond.code yX5_goOf cX5_goOf 3 (some .int), Cond.fieldLink RX5 64 "StopSetterModel" "goLine" "[I", Cond.methodLink RX5 208 yX5_laysOut, Cond.instanceMethod yX5_laysOut, Cond.selects RX5 yX5_laysOut yX5_laysOut, Cond.code yX5_laysOut cX5_laysOut 7 none, Cond.methodLink RX5 193 yX5_stepTo, Cond.instanceMethod yX5_stepTo, Cond.selects RX5 yX5_stepTo yX5_stepTo, Cond.code yX5_stepTo cX5_stepTo 10 (some .int), Cond.fieldLink RX5 83 "StopSetterModel" "byHand" "[I", Cond.fieldLink RX5 73 "StopSetterModel" "kinds" "[I", Cond.fieldLink RX5 80 "StopSetterModel" "row" "[I", Cond.methodLink RX5 197 yX5_costOf, Cond.instanceMethod yX5_costOf, Cond.selects RX5 yX5_costOf yX5_costOf, Cond.code yX5_costOf cX5_costOf 3 (some .int), Cond.methodLink RX5 200 yX5_adds, Cond.instanceMethod yX5_adds, Cond.selects RX5 yX5_adds yX5_adds, Cond.code yX5_adds cX5_adds 4 none, Cond.methodLink RX5 204 yX5_offers]
def wsX5_settled_r3 : List Cond := [Cond.instanceMethod yX5_offers, Cond.selects RX5 yX5_offers yX5_offers, Cond.code yX5_offers cX5_offers 3 none, Cond.methodLink RX5 214 yX5_goesFrom, Cond.instanceMethod yX5_goesFrom, Cond.selects RX5 yX5_goesFrom yX5_goesFrom, Cond.code yX5_goesFrom cX5_goesFrom 6 (some .boolean), Cond.fieldLink RX5 95 "StopSetterModel" "goAt" "[I", Cond.fieldLink RX5 92 "StopSetterModel" "endAt" "[I", Cond.fieldLink RX5 98 "StopSetterModel" "nodeBehind" "[I", Cond.methodLink RX5 234 yX5_keeps, Cond.instanceMethod yX5_keeps, Cond.selects RX5 yX5_keeps yX5_keeps, Cond.code yX5_keeps cX5_keeps 2 (some .int), Cond.fieldLink RX5 104 "StopSetterModel" "firstEnd" "[I", Cond.fieldLink RX5 107 "StopSetterModel" "firstGo" "[I", Cond.methodLink RX5 238 yX5_alike, Cond.instanceMethod yX5_alike, Cond.selects RX5 yX5_alike yX5_alike, Cond.code yX5_alike cX5_alike 3 (some .int)]
def wsX5_settled : List Cond := .code yX5_settled cX5_settled 4 (some .int) :: ((wsX5_settled_r1 ++ (wsX5_settled_r2 ++ wsX5_settled_r3)) ++ wsX50)
def wsX5_count : List Cond := .code yX5_count cX5_count 4 (some .int) :: ([.fieldLink RX5 1 "StopSetterModel" "thrown" "I", .fieldLink RX5 186 "StopSetterModel" "many" "I", .fieldLink RX5 83 "StopSetterModel" "byHand" "[I", .fieldLink RX5 61 "StopSetterModel" "goes" "[I", .fieldLink RX5 155 "StopSetterModel" "holds" "I", .fieldLink RX5 67 "StopSetterModel" "ends" "[I", .fieldLink RX5 11 "StopSetterModel" "taped" "I"] ++ wsX50)
def wsJ9_min_7cf53 : List Cond := .code yJ9_min_7cf53 cJ9_min_7cf53 2 (some .int) :: ([])
abbrev vwCl : List vw_C := [(RX0, TX0, 12), (RX1, TX1, 11), (RX2, TX2, 5), (RX3, TX3, 2), (RX4, TX4, 10), (RX5, TX5, 30)]
end
section
set_option maxRecDepth 20000 in
theorem ggX0_init_J7_fill_53178 : GoodIn wsX0_init wsJ7_fill_53178 := goodIn_r _ [18] (by decide +kernel) (by decide +kernel)
set_option maxRecDepth 20000 in
theorem gX0_init_J7_fill_53178 : GoodIn wsX0_init (va_wsS RX0 41 yJ7_fill_53178 wsJ7_fill_53178) := goodIn_app (goodIn_of _ (by decide +kernel)) ggX0_init_J7_fill_53178
theorem dX0_init_0 : decode cX0_init 0 = .ok (.aload_n 0, 1) := by decide +kernel
theorem dX0_init_1 : decode cX0_init 1 = .ok (.invokespecial 5, 3) := by decide +kernel
theorem dX0_init_4 : decode cX0_init 4 = .ok (.aload_n 0, 1) := by decide +kernel
theorem dX0_init_5 : decode cX0_init 5 = .ok (.sipush 1220, 3) := by decide +kernel
theorem dX0_init_8 : decode cX0_init 8 = .ok (.newarray .int, 2) := by decide +kernel
theorem dX0_init_10 : decode cX0_init 10 = .ok (.putfield 11, 3) := by decide +kernel
theorem dX0_init_13 : decode cX0_init 13 = .ok (.aload_n 0, 1) := by decide +kernel
theorem dX0_init_14 : decode cX0_init 14 = .ok (.sipush 1220, 3) := by decide +kernel
theorem dX0_init_17 : decode cX0_init 17 = .ok (.newarray .int, 2) := by decide +kernel
theorem dX0_init_19 : decode cX0_init 19 = .ok (.putfield 15, 3) := by decide +kernel
theorem dX0_init_22 : decode cX0_init 22 = .ok (.aload_n 0, 1) := by decide +kernel
theorem dX0_init_23 : decode cX0_init 23 = .ok (.sipush 1220, 3) := by decide +kernel
theorem dX0_init_26 : decode cX0_init 26 = .ok (.newarray .int, 2) := by decide +kernel
theorem dX0_init_28 : decode cX0_init 28 = .ok (.putfield 18, 3) := by decide +kernel
theorem dX0_init_31 : decode cX0_init 31 = .ok (.aload_n 0, 1) := by decide +kernel
theorem dX0_init_32 : decode cX0_init 32 = .ok (.sipush 1220, 3) := by decide +kernel
theorem dX0_init_35 : decode cX0_init 35 = .ok (.newarray .int, 2) := by decide +kernel
theorem dX0_init_37 : decode cX0_init 37 = .ok (.putfield 21, 3) := by decide +kernel
theorem dX0_init_40 : decode cX0_init 40 = .ok (.aload_n 0, 1) := by decide +kernel
theorem dX0_init_41 : decode cX0_init 41 = .ok (.sipush 1220, 3) := by decide +kernel
theorem dX0_init_44 : decode cX0_init 44 = .ok (.newarray .int, 2) := by decide +kernel
theorem dX0_init_46 : decode cX0_init 46 = .ok (.putfield 24, 3) := by decide +kernel
theorem dX0_init_49 : decode cX0_init 49 = .ok (.aload_n 0, 1) := by decide +kernel
theorem dX0_init_50 : decode cX0_init 50 = .ok (.sipush 1220, 3) := by decide +kernel
theorem dX0_init_53 : decode cX0_init 53 = .ok (.newarray .int, 2) := by decide +kernel
theorem dX0_init_55 : decode cX0_init 55 = .ok (.putfield 27, 3) := by decide +kernel
theorem dX0_init_58 : decode cX0_init 58 = .ok (.aload_n 0, 1) := by decide +kernel
theorem dX0_init_59 : decode cX0_init 59 = .ok (.bipush 20, 2) := by decide +kernel
theorem dX0_init_61 : decode cX0_init 61 = .ok (.newarray .int, 2) := by decide +kernel
theorem dX0_init_63 : decode cX0_init 63 = .ok (.putfield 30, 3) := by decide +kernel
theorem dX0_init_66 : decode cX0_init 66 = .ok (.aload_n 0, 1) := by decide +kernel
theorem dX0_init_67 : decode cX0_init 67 = .ok (.ldc 33, 2) := by decide +kernel
theorem dX0_init_69 : decode cX0_init 69 = .ok (.putfield 34, 3) := by decide +kernel
theorem dX0_init_72 : decode cX0_init 72 = .ok (.aload_n 0, 1) := by decide +kernel
theorem dX0_init_73 : decode cX0_init 73 = .ok (.ldc 33, 2) := by decide +kernel
theorem dX0_init_75 : decode cX0_init 75 = .ok (.putfield 38, 3) := by decide +kernel
theorem dX0_init_78 : decode cX0_init 78 = .ok (.aload_n 0, 1) := by decide +kernel
theorem dX0_init_79 : decode cX0_init 79 = .ok (.getfield 11, 3) := by decide +kernel
theorem dX0_init_82 : decode cX0_init 82 = .ok (.ldc 33, 2) := by decide +kernel
theorem dX0_init_84 : decode cX0_init 84 = .ok (.invokestatic 41, 3) := by decide +kernel
theorem dX0_init_87 : decode cX0_init 87 = .ok (.aload_n 0, 1) := by decide +kernel
theorem dX0_init_88 : decode cX0_init 88 = .ok (.getfield 15, 3) := by decide +kernel
theorem dX0_init_91 : decode cX0_init 91 = .ok (.ldc 33, 2) := by decide +kernel
theorem dX0_init_93 : decode cX0_init 93 = .ok (.invokestatic 41, 3) := by decide +kernel
theorem dX0_init_96 : decode cX0_init 96 = .ok (.aload_n 0, 1) := by decide +kernel
theorem dX0_init_97 : decode cX0_init 97 = .ok (.getfield 11, 3) := by decide +kernel
theorem dX0_init_100 : decode cX0_init 100 = .ok (.iconst 0, 1) := by decide +kernel
theorem dX0_init_101 : decode cX0_init 101 = .ok (.iconst 0, 1) := by decide +kernel
theorem dX0_init_102 : decode cX0_init 102 = .ok (.iastore, 1) := by decide +kernel
theorem dX0_init_103 : decode cX0_init 103 = .ok (.return_, 1) := by decide +kernel
theorem dX0_keep_0 : decode cX0_keep 0 = .ok (.iload_n 1, 1) := by decide +kernel
theorem dX0_keep_1 : decode cX0_keep 1 = .ok (.ifCond .lt 16, 3) := by decide +kernel
theorem dX0_keep_4 : decode cX0_keep 4 = .ok (.iload_n 1, 1) := by decide +kernel
theorem dX0_keep_5 : decode cX0_keep 5 = .ok (.aload_n 0, 1) := by decide +kernel
theorem dX0_keep_6 : decode cX0_keep 6 = .ok (.getfield 47, 3) := by decide +kernel
theorem dX0_keep_9 : decode cX0_keep 9 = .ok (.if_icmp .ge 8, 3) := by decide +kernel
theorem dX0_keep_12 : decode cX0_keep 12 = .ok (.aload_n 0, 1) := by decide +kernel
theorem dX0_keep_13 : decode cX0_keep 13 = .ok (.iload_n 1, 1) := by decide +kernel
theorem dX0_keep_14 : decode cX0_keep 14 = .ok (.putfield 47, 3) := by decide +kernel
theorem dX0_keep_17 : decode cX0_keep 17 = .ok (.return_, 1) := by decide +kernel
theorem dX0_isParted_0 : decode cX0_isParted 0 = .ok (.aload_n 0, 1) := by decide +kernel
theorem dX0_isParted_1 : decode cX0_isParted 1 = .ok (.getfield 34, 3) := by decide +kernel
theorem dX0_isParted_4 : decode cX0_isParted 4 = .ok (.ldc 33, 2) := by decide +kernel
theorem dX0_isParted_6 : decode cX0_isParted 6 = .ok (.if_icmp .ge 7, 3) := by decide +kernel
theorem dX0_isParted_9 : decode cX0_isParted 9 = .ok (.iconst 1, 1) := by decide +kernel
theorem dX0_isParted_10 : decode cX0_isParted 10 = .ok (.goto 4, 3) := by decide +kernel
theorem dX0_isParted_13 : decode cX0_isParted 13 = .ok (.iconst 0, 1) := by decide +kernel
theorem dX0_isParted_14 : decode cX0_isParted 14 = .ok (.ireturn, 1) := by decide +kernel
theorem dX0_isPartedTwice_0 : decode cX0_isPartedTwice 0 = .ok (.aload_n 0, 1) := by decide +kernel
theorem dX0_isPartedTwice_1 : decode cX0_isPartedTwice 1 = .ok (.getfield 38, 3) := by decide +kernel
theorem dX0_isPartedTwice_4 : decode cX0_isPartedTwice 4 = .ok (.ldc 33, 2) := by decide +kernel
theorem dX0_isPartedTwice_6 : decode cX0_isPartedTwice 6 = .ok (.if_icmp .ge 7, 3) := by decide +kernel
theorem dX0_isPartedTwice_9 : decode cX0_isPartedTwice 9 = .ok (.iconst 1, 1) := by decide +kernel
theorem dX0_isPartedTwice_10 : decode cX0_isPartedTwice 10 = .ok (.goto 4, 3) := by decide +kernel
theorem dX0_isPartedTwice_13 : decode cX0_isPartedTwice 13 = .ok (.iconst 0, 1) := by decide +kernel
theorem dX0_isPartedTwice_14 : decode cX0_isPartedTwice 14 = .ok (.ireturn, 1) := by decide +kernel
theorem dX0_cell_0 : decode cX0_cell 0 = .ok (.iload_n 0, 1) := by decide +kernel
theorem dX0_cell_1 : decode cX0_cell 1 = .ok (.ifCond .lt 23, 3) := by decide +kernel
theorem dX0_cell_4 : decode cX0_cell 4 = .ok (.iload_n 0, 1) := by decide +kernel
theorem dX0_cell_5 : decode cX0_cell 5 = .ok (.bipush 60, 2) := by decide +kernel
theorem dX0_cell_7 : decode cX0_cell 7 = .ok (.if_icmp .gt 17, 3) := by decide +kernel
theorem dX0_cell_10 : decode cX0_cell 10 = .ok (.iload_n 1, 1) := by decide +kernel
theorem dX0_cell_11 : decode cX0_cell 11 = .ok (.ifCond .lt 13, 3) := by decide +kernel
theorem dX0_cell_14 : decode cX0_cell 14 = .ok (.iload_n 1, 1) := by decide +kernel
theorem dX0_cell_15 : decode cX0_cell 15 = .ok (.bipush 20, 2) := by decide +kernel
theorem dX0_cell_17 : decode cX0_cell 17 = .ok (.if_icmp .ge 7, 3) := by decide +kernel
theorem dX0_cell_20 : decode cX0_cell 20 = .ok (.iconst 1, 1) := by decide +kernel
theorem dX0_cell_21 : decode cX0_cell 21 = .ok (.goto 4, 3) := by decide +kernel
theorem dX0_cell_24 : decode cX0_cell 24 = .ok (.iconst 0, 1) := by decide +kernel
theorem dX0_cell_25 : decode cX0_cell 25 = .ok (.istore_n 2, 1) := by decide +kernel
theorem dX0_cell_26 : decode cX0_cell 26 = .ok (.iload_n 2, 1) := by decide +kernel
theorem dX0_cell_27 : decode cX0_cell 27 = .ok (.ifCond .eq 12, 3) := by decide +kernel
theorem dX0_cell_30 : decode cX0_cell 30 = .ok (.iload_n 0, 1) := by decide +kernel
theorem dX0_cell_31 : decode cX0_cell 31 = .ok (.bipush 20, 2) := by decide +kernel
theorem dX0_cell_33 : decode cX0_cell 33 = .ok (.imul, 1) := by decide +kernel
theorem dX0_cell_34 : decode cX0_cell 34 = .ok (.iload_n 1, 1) := by decide +kernel
theorem dX0_cell_35 : decode cX0_cell 35 = .ok (.iadd, 1) := by decide +kernel
theorem dX0_cell_36 : decode cX0_cell 36 = .ok (.goto 4, 3) := by decide +kernel
theorem dX0_cell_39 : decode cX0_cell 39 = .ok (.iconst 0, 1) := by decide +kernel
theorem dX0_cell_40 : decode cX0_cell 40 = .ok (.ireturn, 1) := by decide +kernel
set_option maxRecDepth 20000 in
theorem ggX0_extend_X0_cell : GoodIn wsX0_extend wsX0_cell := goodIn_r _ [8] (by decide +kernel) (by decide +kernel)
set_option maxRecDepth 20000 in
theorem gX0_extend_X0_cell : GoodIn wsX0_extend (va_wsS RX0 50 yX0_cell wsX0_cell) := goodIn_app (goodIn_of _ (by decide +kernel)) ggX0_extend_X0_cell
set_option maxRecDepth 20000 in
theorem ggX0_extend_X0_isReached : GoodIn wsX0_extend wsX0_isReached := goodIn_r _ [12, 2, 1, 3, 5, 6, 7, 8, 83, 84, 85, 86, 87, 88, 89, 90, 91, 92, 93, 94] (by decide +kernel) (by decide +kernel)
set_option maxRecDepth 20000 in
theorem gX0_extend_X0_isReached : GoodIn wsX0_extend (wsV RX0 54 RX0 yX0_isReached wsX0_isReached) := goodIn_app (goodIn_of _ (by decide +kernel)) ggX0_extend_X0_isReached
set_option maxRecDepth 20000 in
theorem ggX0_extend_X0_stepFrom : GoodIn wsX0_extend wsX0_stepFrom := goodIn_r _ [16, 1, 17, 18, 19, 7, 20, 21, 22, 23, 24, 25, 26, 27, 28, 29, 30, 31, 32, 33, 34, 35, 36, 37, 38, 39, 40, 41, 42, 43, 44, 45, 46, 47, 48, 49, 50, 51, 52, 53, 54, 55, 56, 57, 58, 59, 2, 60, 61, 4, 62, 63, 64, 65, 66, 67, 68, 3, 5, 6, 8, 69, 70, 71, 72, 73, 74, 83, 84, 85, 86, 87, 88, 89, 90, 91, 92, 93, 94, 95, 96, 97, 98, 99, 100, 101, 102, 103, 104, 105] (by decide +kernel) (by decide +kernel)
set_option maxRecDepth 20000 in
theorem gX0_extend_X0_stepFrom : GoodIn wsX0_extend (wsV RX0 58 RX0 yX0_stepFrom wsX0_stepFrom) := goodIn_app (goodIn_of _ (by decide +kernel)) ggX0_extend_X0_stepFrom
set_option maxRecDepth 20000 in
theorem ggX0_extend_X0_rankLevel : GoodIn wsX0_extend wsX0_rankLevel := goodIn_r _ [78, 60, 1, 9, 10, 11, 7, 12, 2, 3, 5, 6, 8, 79, 80, 81, 82, 61, 83, 84, 85, 86, 87, 88, 89, 90, 91, 92, 93, 94] (by decide +kernel) (by decide +kernel)
set_option maxRecDepth 20000 in
theorem gX0_extend_X0_rankLevel : GoodIn wsX0_extend (wsV RX0 62 RX0 yX0_rankLevel wsX0_rankLevel) := goodIn_app (goodIn_of _ (by decide +kernel)) ggX0_extend_X0_rankLevel
theorem dX0_extend_0 : decode cX0_extend 0 = .ok (.aload_n 0, 1) := by decide +kernel
theorem dX0_extend_1 : decode cX0_extend 1 = .ok (.getfield 47, 3) := by decide +kernel
theorem dX0_extend_4 : decode cX0_extend 4 = .ok (.ifCond .lt 12, 3) := by decide +kernel
theorem dX0_extend_7 : decode cX0_extend 7 = .ok (.aload_n 0, 1) := by decide +kernel
theorem dX0_extend_8 : decode cX0_extend 8 = .ok (.getfield 47, 3) := by decide +kernel
theorem dX0_extend_11 : decode cX0_extend 11 = .ok (.bipush 60, 2) := by decide +kernel
theorem dX0_extend_13 : decode cX0_extend 13 = .ok (.if_icmp .lt 4, 3) := by decide +kernel
theorem dX0_extend_16 : decode cX0_extend 16 = .ok (.return_, 1) := by decide +kernel
theorem dX0_extend_17 : decode cX0_extend 17 = .ok (.iconst 0, 1) := by decide +kernel
theorem dX0_extend_18 : decode cX0_extend 18 = .ok (.istore 4, 2) := by decide +kernel
theorem dX0_extend_20 : decode cX0_extend 20 = .ok (.iload 4, 2) := by decide +kernel
theorem dX0_extend_22 : decode cX0_extend 22 = .ok (.bipush 20, 2) := by decide +kernel
theorem dX0_extend_24 : decode cX0_extend 24 = .ok (.if_icmp .ge 45, 3) := by decide +kernel
theorem dX0_extend_27 : decode cX0_extend 27 = .ok (.aload_n 0, 1) := by decide +kernel
theorem dX0_extend_28 : decode cX0_extend 28 = .ok (.getfield 11, 3) := by decide +kernel
theorem dX0_extend_31 : decode cX0_extend 31 = .ok (.aload_n 0, 1) := by decide +kernel
theorem dX0_extend_32 : decode cX0_extend 32 = .ok (.getfield 47, 3) := by decide +kernel
theorem dX0_extend_35 : decode cX0_extend 35 = .ok (.iconst 1, 1) := by decide +kernel
theorem dX0_extend_36 : decode cX0_extend 36 = .ok (.iadd, 1) := by decide +kernel
theorem dX0_extend_37 : decode cX0_extend 37 = .ok (.iload 4, 2) := by decide +kernel
theorem dX0_extend_39 : decode cX0_extend 39 = .ok (.invokestatic 50, 3) := by decide +kernel
theorem dX0_extend_42 : decode cX0_extend 42 = .ok (.ldc 33, 2) := by decide +kernel
theorem dX0_extend_44 : decode cX0_extend 44 = .ok (.iastore, 1) := by decide +kernel
theorem dX0_extend_45 : decode cX0_extend 45 = .ok (.aload_n 0, 1) := by decide +kernel
theorem dX0_extend_46 : decode cX0_extend 46 = .ok (.getfield 15, 3) := by decide +kernel
theorem dX0_extend_49 : decode cX0_extend 49 = .ok (.aload_n 0, 1) := by decide +kernel
theorem dX0_extend_50 : decode cX0_extend 50 = .ok (.getfield 47, 3) := by decide +kernel
theorem dX0_extend_53 : decode cX0_extend 53 = .ok (.iconst 1, 1) := by decide +kernel
theorem dX0_extend_54 : decode cX0_extend 54 = .ok (.iadd, 1) := by decide +kernel
theorem dX0_extend_55 : decode cX0_extend 55 = .ok (.iload 4, 2) := by decide +kernel
theorem dX0_extend_57 : decode cX0_extend 57 = .ok (.invokestatic 50, 3) := by decide +kernel
theorem dX0_extend_60 : decode cX0_extend 60 = .ok (.ldc 33, 2) := by decide +kernel
theorem dX0_extend_62 : decode cX0_extend 62 = .ok (.iastore, 1) := by decide +kernel
theorem dX0_extend_63 : decode cX0_extend 63 = .ok (.iinc 4 1, 3) := by decide +kernel
theorem dX0_extend_66 : decode cX0_extend 66 = .ok (.goto (-46), 3) := by decide +kernel
theorem dX0_extend_69 : decode cX0_extend 69 = .ok (.iconst 0, 1) := by decide +kernel
theorem dX0_extend_70 : decode cX0_extend 70 = .ok (.istore 4, 2) := by decide +kernel
theorem dX0_extend_72 : decode cX0_extend 72 = .ok (.iload 4, 2) := by decide +kernel
theorem dX0_extend_74 : decode cX0_extend 74 = .ok (.bipush 20, 2) := by decide +kernel
theorem dX0_extend_76 : decode cX0_extend 76 = .ok (.if_icmp .ge 27, 3) := by decide +kernel
theorem dX0_extend_79 : decode cX0_extend 79 = .ok (.aload_n 0, 1) := by decide +kernel
theorem dX0_extend_80 : decode cX0_extend 80 = .ok (.iload 4, 2) := by decide +kernel
theorem dX0_extend_82 : decode cX0_extend 82 = .ok (.invokevirtual 54, 3) := by decide +kernel
theorem dX0_extend_85 : decode cX0_extend 85 = .ok (.ifCond .eq 12, 3) := by decide +kernel
theorem dX0_extend_88 : decode cX0_extend 88 = .ok (.aload_n 0, 1) := by decide +kernel
theorem dX0_extend_89 : decode cX0_extend 89 = .ok (.iload 4, 2) := by decide +kernel
theorem dX0_extend_91 : decode cX0_extend 91 = .ok (.aload_n 1, 1) := by decide +kernel
theorem dX0_extend_92 : decode cX0_extend 92 = .ok (.iload_n 2, 1) := by decide +kernel
theorem dX0_extend_93 : decode cX0_extend 93 = .ok (.iload_n 3, 1) := by decide +kernel
theorem dX0_extend_94 : decode cX0_extend 94 = .ok (.invokevirtual 58, 3) := by decide +kernel
theorem dX0_extend_97 : decode cX0_extend 97 = .ok (.iinc 4 1, 3) := by decide +kernel
theorem dX0_extend_100 : decode cX0_extend 100 = .ok (.goto (-28), 3) := by decide +kernel
theorem dX0_extend_103 : decode cX0_extend 103 = .ok (.aload_n 0, 1) := by decide +kernel
theorem dX0_extend_104 : decode cX0_extend 104 = .ok (.dup, 1) := by decide +kernel
theorem dX0_extend_105 : decode cX0_extend 105 = .ok (.getfield 47, 3) := by decide +kernel
theorem dX0_extend_108 : decode cX0_extend 108 = .ok (.iconst 1, 1) := by decide +kernel
theorem dX0_extend_109 : decode cX0_extend 109 = .ok (.iadd, 1) := by decide +kernel
theorem dX0_extend_110 : decode cX0_extend 110 = .ok (.putfield 47, 3) := by decide +kernel
theorem dX0_extend_113 : decode cX0_extend 113 = .ok (.aload_n 0, 1) := by decide +kernel
theorem dX0_extend_114 : decode cX0_extend 114 = .ok (.invokevirtual 62, 3) := by decide +kernel
theorem dX0_extend_117 : decode cX0_extend 117 = .ok (.return_, 1) := by decide +kernel
set_option maxRecDepth 20000 in
theorem ggX0_stepFrom_X0_goFrom : GoodIn wsX0_stepFrom wsX0_goFrom := goodIn_r _ [6, 7, 8, 9, 10, 11, 12, 13, 14, 15, 16, 17, 18, 19, 20, 21, 22, 23, 24, 25, 26, 27, 28, 29, 30, 31, 32, 33, 34, 35, 36, 37, 38, 39, 40, 41, 42, 43, 44, 5, 45, 1, 46, 47, 48, 49, 50, 51, 52, 53, 54, 55, 56, 57, 58, 59, 60, 79, 80, 81, 82, 83, 84, 85, 86, 87, 88, 89, 67, 68, 69, 70, 71, 72, 73, 74, 75, 76, 77, 78] (by decide +kernel) (by decide +kernel)
set_option maxRecDepth 20000 in
theorem gX0_stepFrom_X0_goFrom : GoodIn wsX0_stepFrom (wsV RX0 65 RX0 yX0_goFrom wsX0_goFrom) := goodIn_app (goodIn_of _ (by decide +kernel)) ggX0_stepFrom_X0_goFrom
set_option maxRecDepth 20000 in
theorem ggX0_stepFrom_X4_quotesOf : GoodIn wsX0_stepFrom wsX4_quotesOf := goodIn_r _ [24] (by decide +kernel) (by decide +kernel)
set_option maxRecDepth 20000 in
theorem gX0_stepFrom_X4_quotesOf_n69 : GoodIn wsX0_stepFrom (wsX4_quotesOf) := ggX0_stepFrom_X4_quotesOf
set_option maxRecDepth 20000 in
theorem ggX0_stepFrom_X4_stateOf : GoodIn wsX0_stepFrom wsX4_stateOf := goodIn_r _ [9] (by decide +kernel) (by decide +kernel)
set_option maxRecDepth 20000 in
theorem gX0_stepFrom_X4_stateOf_n78 : GoodIn wsX0_stepFrom (wsX4_stateOf) := ggX0_stepFrom_X4_stateOf
set_option maxRecDepth 20000 in
theorem ggX0_stepFrom_X1_canEnd : GoodIn wsX0_stepFrom wsX1_canEnd := goodIn_r _ [64, 65, 66, 37, 38, 39, 13, 40, 41, 79, 80, 81, 82, 83, 84, 85, 86, 87, 88, 89] (by decide +kernel) (by decide +kernel)
set_option maxRecDepth 20000 in
theorem gX0_stepFrom_X1_canEnd : GoodIn wsX0_stepFrom (wsV RX0 81 RX1 yX1_canEnd wsX1_canEnd) := goodIn_app (goodIn_of _ (by decide +kernel)) ggX0_stepFrom_X1_canEnd
theorem dX0_stepFrom_0 : decode cX0_stepFrom 0 = .ok (.iload 4, 2) := by decide +kernel
theorem dX0_stepFrom_2 : decode cX0_stepFrom 2 = .ok (.iconst 4, 1) := by decide +kernel
theorem dX0_stepFrom_3 : decode cX0_stepFrom 3 = .ok (.if_icmp .ge 13, 3) := by decide +kernel
theorem dX0_stepFrom_6 : decode cX0_stepFrom 6 = .ok (.aload_n 0, 1) := by decide +kernel
theorem dX0_stepFrom_7 : decode cX0_stepFrom 7 = .ok (.iload_n 1, 1) := by decide +kernel
theorem dX0_stepFrom_8 : decode cX0_stepFrom 8 = .ok (.iconst (-1), 1) := by decide +kernel
theorem dX0_stepFrom_9 : decode cX0_stepFrom 9 = .ok (.aload_n 2, 1) := by decide +kernel
theorem dX0_stepFrom_10 : decode cX0_stepFrom 10 = .ok (.iload_n 3, 1) := by decide +kernel
theorem dX0_stepFrom_11 : decode cX0_stepFrom 11 = .ok (.iload 4, 2) := by decide +kernel
theorem dX0_stepFrom_13 : decode cX0_stepFrom 13 = .ok (.invokevirtual 65, 3) := by decide +kernel
theorem dX0_stepFrom_16 : decode cX0_stepFrom 16 = .ok (.iload 4, 2) := by decide +kernel
theorem dX0_stepFrom_18 : decode cX0_stepFrom 18 = .ok (.iconst (-1), 1) := by decide +kernel
theorem dX0_stepFrom_19 : decode cX0_stepFrom 19 = .ok (.if_icmp .eq 9, 3) := by decide +kernel
theorem dX0_stepFrom_22 : decode cX0_stepFrom 22 = .ok (.iload 4, 2) := by decide +kernel
theorem dX0_stepFrom_24 : decode cX0_stepFrom 24 = .ok (.iconst 4, 1) := by decide +kernel
theorem dX0_stepFrom_25 : decode cX0_stepFrom 25 = .ok (.if_icmp .lt 7, 3) := by decide +kernel
theorem dX0_stepFrom_28 : decode cX0_stepFrom 28 = .ok (.iconst 1, 1) := by decide +kernel
theorem dX0_stepFrom_29 : decode cX0_stepFrom 29 = .ok (.goto 4, 3) := by decide +kernel
theorem dX0_stepFrom_32 : decode cX0_stepFrom 32 = .ok (.iconst 0, 1) := by decide +kernel
theorem dX0_stepFrom_33 : decode cX0_stepFrom 33 = .ok (.istore 5, 2) := by decide +kernel
theorem dX0_stepFrom_35 : decode cX0_stepFrom 35 = .ok (.aload_n 0, 1) := by decide +kernel
theorem dX0_stepFrom_36 : decode cX0_stepFrom 36 = .ok (.getfield 47, 3) := by decide +kernel
theorem dX0_stepFrom_39 : decode cX0_stepFrom 39 = .ok (.ifCond .eq 16, 3) := by decide +kernel
theorem dX0_stepFrom_42 : decode cX0_stepFrom 42 = .ok (.iload_n 1, 1) := by decide +kernel
theorem dX0_stepFrom_43 : decode cX0_stepFrom 43 = .ok (.invokestatic 69, 3) := by decide +kernel
theorem dX0_stepFrom_46 : decode cX0_stepFrom 46 = .ok (.iconst 1, 1) := by decide +kernel
theorem dX0_stepFrom_47 : decode cX0_stepFrom 47 = .ok (.if_icmp .eq 8, 3) := by decide +kernel
theorem dX0_stepFrom_50 : decode cX0_stepFrom 50 = .ok (.iload 5, 2) := by decide +kernel
theorem dX0_stepFrom_52 : decode cX0_stepFrom 52 = .ok (.ifCond .ne 4, 3) := by decide +kernel
theorem dX0_stepFrom_55 : decode cX0_stepFrom 55 = .ok (.return_, 1) := by decide +kernel
theorem dX0_stepFrom_56 : decode cX0_stepFrom 56 = .ok (.iconst 0, 1) := by decide +kernel
theorem dX0_stepFrom_57 : decode cX0_stepFrom 57 = .ok (.istore 6, 2) := by decide +kernel
theorem dX0_stepFrom_59 : decode cX0_stepFrom 59 = .ok (.iload 6, 2) := by decide +kernel
theorem dX0_stepFrom_61 : decode cX0_stepFrom 61 = .ok (.aload_n 2, 1) := by decide +kernel
theorem dX0_stepFrom_62 : decode cX0_stepFrom 62 = .ok (.getfield 73, 3) := by decide +kernel
theorem dX0_stepFrom_65 : decode cX0_stepFrom 65 = .ok (.if_icmp .ge 34, 3) := by decide +kernel
theorem dX0_stepFrom_68 : decode cX0_stepFrom 68 = .ok (.aload_n 2, 1) := by decide +kernel
theorem dX0_stepFrom_69 : decode cX0_stepFrom 69 = .ok (.iload 6, 2) := by decide +kernel
theorem dX0_stepFrom_71 : decode cX0_stepFrom 71 = .ok (.iload_n 1, 1) := by decide +kernel
theorem dX0_stepFrom_72 : decode cX0_stepFrom 72 = .ok (.invokestatic 78, 3) := by decide +kernel
theorem dX0_stepFrom_75 : decode cX0_stepFrom 75 = .ok (.iload 4, 2) := by decide +kernel
theorem dX0_stepFrom_77 : decode cX0_stepFrom 77 = .ok (.invokevirtual 81, 3) := by decide +kernel
theorem dX0_stepFrom_80 : decode cX0_stepFrom 80 = .ok (.ifCond .eq 13, 3) := by decide +kernel
theorem dX0_stepFrom_83 : decode cX0_stepFrom 83 = .ok (.aload_n 0, 1) := by decide +kernel
theorem dX0_stepFrom_84 : decode cX0_stepFrom 84 = .ok (.iload_n 1, 1) := by decide +kernel
theorem dX0_stepFrom_85 : decode cX0_stepFrom 85 = .ok (.iload 6, 2) := by decide +kernel
theorem dX0_stepFrom_87 : decode cX0_stepFrom 87 = .ok (.aload_n 2, 1) := by decide +kernel
theorem dX0_stepFrom_88 : decode cX0_stepFrom 88 = .ok (.iload_n 3, 1) := by decide +kernel
theorem dX0_stepFrom_89 : decode cX0_stepFrom 89 = .ok (.iconst (-1), 1) := by decide +kernel
theorem dX0_stepFrom_90 : decode cX0_stepFrom 90 = .ok (.invokevirtual 65, 3) := by decide +kernel
theorem dX0_stepFrom_93 : decode cX0_stepFrom 93 = .ok (.iinc 6 1, 3) := by decide +kernel
theorem dX0_stepFrom_96 : decode cX0_stepFrom 96 = .ok (.goto (-37), 3) := by decide +kernel
theorem dX0_stepFrom_99 : decode cX0_stepFrom 99 = .ok (.return_, 1) := by decide +kernel
set_option maxRecDepth 20000 in
theorem ggX0_goFrom_X4_stateOf : GoodIn wsX0_goFrom wsX4_stateOf := goodIn_r _ [3] (by decide +kernel) (by decide +kernel)
set_option maxRecDepth 20000 in
theorem gX0_goFrom_X4_stateOf_n78 : GoodIn wsX0_goFrom (wsX4_stateOf) := ggX0_goFrom_X4_stateOf
set_option maxRecDepth 20000 in
theorem ggX0_goFrom_X1_canGo : GoodIn wsX0_goFrom wsX1_canGo := goodIn_r _ [8, 9, 10, 11, 12, 13, 14, 7, 15, 16, 57, 58, 59, 60, 61, 62, 63, 64, 65, 66, 67] (by decide +kernel) (by decide +kernel)
set_option maxRecDepth 20000 in
theorem gX0_goFrom_X1_canGo : GoodIn wsX0_goFrom (wsV RX0 88 RX1 yX1_canGo wsX1_canGo) := goodIn_app (goodIn_of _ (by decide +kernel)) ggX0_goFrom_X1_canGo
set_option maxRecDepth 20000 in
theorem ggX0_goFrom_X4_quotesOf : GoodIn wsX0_goFrom wsX4_quotesOf := goodIn_r _ [18] (by decide +kernel) (by decide +kernel)
set_option maxRecDepth 20000 in
theorem gX0_goFrom_X4_quotesOf_n69 : GoodIn wsX0_goFrom (wsX4_quotesOf) := ggX0_goFrom_X4_quotesOf
set_option maxRecDepth 20000 in
theorem ggX0_goFrom_X1_nodeBehind : GoodIn wsX0_goFrom wsX1_nodeBehind := goodIn_r _ [22, 11, 23, 12, 13, 14, 7, 15, 16, 24, 2, 25, 57, 58, 59, 60, 61, 62, 63, 64, 65, 66, 67] (by decide +kernel) (by decide +kernel)
set_option maxRecDepth 20000 in
theorem gX0_goFrom_X1_nodeBehind : GoodIn wsX0_goFrom (wsV RX0 92 RX1 yX1_nodeBehind wsX1_nodeBehind) := goodIn_app (goodIn_of _ (by decide +kernel)) ggX0_goFrom_X1_nodeBehind
set_option maxRecDepth 20000 in
theorem ggX0_goFrom_X1_costOfEnd : GoodIn wsX0_goFrom wsX1_costOfEnd := goodIn_r _ [29, 30, 31, 32, 33, 7, 34, 35, 57, 58, 59, 60, 61, 62, 63, 64, 65, 66, 67] (by decide +kernel) (by decide +kernel)
set_option maxRecDepth 20000 in
theorem gX0_goFrom_X1_costOfEnd : GoodIn wsX0_goFrom (wsV RX0 95 RX1 yX1_costOfEnd wsX1_costOfEnd) := goodIn_app (goodIn_of _ (by decide +kernel)) ggX0_goFrom_X1_costOfEnd
set_option maxRecDepth 20000 in
theorem ggX0_goFrom_X0_offer : GoodIn wsX0_goFrom wsX0_offer := goodIn_r _ [40, 41, 42, 43, 44, 45, 46, 47, 48, 49, 50, 51, 52, 53, 54, 55, 39, 56, 68, 69, 70, 71, 72, 73, 74, 75, 76, 77, 78, 79] (by decide +kernel) (by decide +kernel)
set_option maxRecDepth 20000 in
theorem gX0_goFrom_X0_offer : GoodIn wsX0_goFrom (wsV RX0 101 RX0 yX0_offer wsX0_offer) := goodIn_app (goodIn_of _ (by decide +kernel)) ggX0_goFrom_X0_offer
theorem dX0_goFrom_0 : decode cX0_goFrom 0 = .ok (.iload_n 2, 1) := by decide +kernel
theorem dX0_goFrom_1 : decode cX0_goFrom 1 = .ok (.iconst (-1), 1) := by decide +kernel
theorem dX0_goFrom_2 : decode cX0_goFrom 2 = .ok (.if_icmp .ne 10, 3) := by decide +kernel
theorem dX0_goFrom_5 : decode cX0_goFrom 5 = .ok (.iload_n 1, 1) := by decide +kernel
theorem dX0_goFrom_6 : decode cX0_goFrom 6 = .ok (.invokestatic 78, 3) := by decide +kernel
theorem dX0_goFrom_9 : decode cX0_goFrom 9 = .ok (.goto 4, 3) := by decide +kernel
theorem dX0_goFrom_12 : decode cX0_goFrom 12 = .ok (.iconst 0, 1) := by decide +kernel
theorem dX0_goFrom_13 : decode cX0_goFrom 13 = .ok (.istore 6, 2) := by decide +kernel
theorem dX0_goFrom_15 : decode cX0_goFrom 15 = .ok (.iconst 0, 1) := by decide +kernel
theorem dX0_goFrom_16 : decode cX0_goFrom 16 = .ok (.istore 7, 2) := by decide +kernel
theorem dX0_goFrom_18 : decode cX0_goFrom 18 = .ok (.iload 7, 2) := by decide +kernel
theorem dX0_goFrom_20 : decode cX0_goFrom 20 = .ok (.aload_n 3, 1) := by decide +kernel
theorem dX0_goFrom_21 : decode cX0_goFrom 21 = .ok (.getfield 85, 3) := by decide +kernel
theorem dX0_goFrom_24 : decode cX0_goFrom 24 = .ok (.if_icmp .ge 63, 3) := by decide +kernel
theorem dX0_goFrom_27 : decode cX0_goFrom 27 = .ok (.aload_n 3, 1) := by decide +kernel
theorem dX0_goFrom_28 : decode cX0_goFrom 28 = .ok (.iload 7, 2) := by decide +kernel
theorem dX0_goFrom_30 : decode cX0_goFrom 30 = .ok (.iload 6, 2) := by decide +kernel
theorem dX0_goFrom_32 : decode cX0_goFrom 32 = .ok (.iload 4, 2) := by decide +kernel
theorem dX0_goFrom_34 : decode cX0_goFrom 34 = .ok (.iload 5, 2) := by decide +kernel
theorem dX0_goFrom_36 : decode cX0_goFrom 36 = .ok (.invokevirtual 88, 3) := by decide +kernel
theorem dX0_goFrom_39 : decode cX0_goFrom 39 = .ok (.ifCond .eq 42, 3) := by decide +kernel
theorem dX0_goFrom_42 : decode cX0_goFrom 42 = .ok (.aload_n 3, 1) := by decide +kernel
theorem dX0_goFrom_43 : decode cX0_goFrom 43 = .ok (.iload 7, 2) := by decide +kernel
theorem dX0_goFrom_45 : decode cX0_goFrom 45 = .ok (.iload_n 1, 1) := by decide +kernel
theorem dX0_goFrom_46 : decode cX0_goFrom 46 = .ok (.invokestatic 69, 3) := by decide +kernel
theorem dX0_goFrom_49 : decode cX0_goFrom 49 = .ok (.invokevirtual 92, 3) := by decide +kernel
theorem dX0_goFrom_52 : decode cX0_goFrom 52 = .ok (.istore 8, 2) := by decide +kernel
theorem dX0_goFrom_54 : decode cX0_goFrom 54 = .ok (.aload_n 3, 1) := by decide +kernel
theorem dX0_goFrom_55 : decode cX0_goFrom 55 = .ok (.iload_n 2, 1) := by decide +kernel
theorem dX0_goFrom_56 : decode cX0_goFrom 56 = .ok (.invokevirtual 95, 3) := by decide +kernel
theorem dX0_goFrom_59 : decode cX0_goFrom 59 = .ok (.aload_n 3, 1) := by decide +kernel
theorem dX0_goFrom_60 : decode cX0_goFrom 60 = .ok (.getfield 98, 3) := by decide +kernel
theorem dX0_goFrom_63 : decode cX0_goFrom 63 = .ok (.iload 7, 2) := by decide +kernel
theorem dX0_goFrom_65 : decode cX0_goFrom 65 = .ok (.iaload, 1) := by decide +kernel
theorem dX0_goFrom_66 : decode cX0_goFrom 66 = .ok (.iadd, 1) := by decide +kernel
theorem dX0_goFrom_67 : decode cX0_goFrom 67 = .ok (.istore 9, 2) := by decide +kernel
theorem dX0_goFrom_69 : decode cX0_goFrom 69 = .ok (.aload_n 0, 1) := by decide +kernel
theorem dX0_goFrom_70 : decode cX0_goFrom 70 = .ok (.iload_n 1, 1) := by decide +kernel
theorem dX0_goFrom_71 : decode cX0_goFrom 71 = .ok (.iload_n 2, 1) := by decide +kernel
theorem dX0_goFrom_72 : decode cX0_goFrom 72 = .ok (.iload 7, 2) := by decide +kernel
theorem dX0_goFrom_74 : decode cX0_goFrom 74 = .ok (.iload 8, 2) := by decide +kernel
theorem dX0_goFrom_76 : decode cX0_goFrom 76 = .ok (.iload 9, 2) := by decide +kernel
theorem dX0_goFrom_78 : decode cX0_goFrom 78 = .ok (.invokevirtual 101, 3) := by decide +kernel
theorem dX0_goFrom_81 : decode cX0_goFrom 81 = .ok (.iinc 7 1, 3) := by decide +kernel
theorem dX0_goFrom_84 : decode cX0_goFrom 84 = .ok (.goto (-66), 3) := by decide +kernel
theorem dX0_goFrom_87 : decode cX0_goFrom 87 = .ok (.return_, 1) := by decide +kernel
set_option maxRecDepth 20000 in
theorem ggX0_offer_X0_cell : GoodIn wsX0_offer wsX0_cell := goodIn_r _ [17] (by decide +kernel) (by decide +kernel)
set_option maxRecDepth 20000 in
theorem gX0_offer_X0_cell : GoodIn wsX0_offer (va_wsS RX0 50 yX0_cell wsX0_cell) := goodIn_app (goodIn_of _ (by decide +kernel)) ggX0_offer_X0_cell
theorem dX0_offer_0 : decode cX0_offer 0 = .ok (.iload 4, 2) := by decide +kernel
theorem dX0_offer_2 : decode cX0_offer 2 = .ok (.ifCond .lt 10, 3) := by decide +kernel
theorem dX0_offer_5 : decode cX0_offer 5 = .ok (.iload 4, 2) := by decide +kernel
theorem dX0_offer_7 : decode cX0_offer 7 = .ok (.bipush 20, 2) := by decide +kernel
theorem dX0_offer_9 : decode cX0_offer 9 = .ok (.if_icmp .lt 4, 3) := by decide +kernel
theorem dX0_offer_12 : decode cX0_offer 12 = .ok (.return_, 1) := by decide +kernel
theorem dX0_offer_13 : decode cX0_offer 13 = .ok (.aload_n 0, 1) := by decide +kernel
theorem dX0_offer_14 : decode cX0_offer 14 = .ok (.getfield 47, 3) := by decide +kernel
theorem dX0_offer_17 : decode cX0_offer 17 = .ok (.iload_n 1, 1) := by decide +kernel
theorem dX0_offer_18 : decode cX0_offer 18 = .ok (.invokestatic 50, 3) := by decide +kernel
theorem dX0_offer_21 : decode cX0_offer 21 = .ok (.istore 6, 2) := by decide +kernel
theorem dX0_offer_23 : decode cX0_offer 23 = .ok (.aload_n 0, 1) := by decide +kernel
theorem dX0_offer_24 : decode cX0_offer 24 = .ok (.getfield 47, 3) := by decide +kernel
theorem dX0_offer_27 : decode cX0_offer 27 = .ok (.iconst 1, 1) := by decide +kernel
theorem dX0_offer_28 : decode cX0_offer 28 = .ok (.iadd, 1) := by decide +kernel
theorem dX0_offer_29 : decode cX0_offer 29 = .ok (.iload 4, 2) := by decide +kernel
theorem dX0_offer_31 : decode cX0_offer 31 = .ok (.invokestatic 50, 3) := by decide +kernel
theorem dX0_offer_34 : decode cX0_offer 34 = .ok (.istore 7, 2) := by decide +kernel
theorem dX0_offer_36 : decode cX0_offer 36 = .ok (.aload_n 0, 1) := by decide +kernel
theorem dX0_offer_37 : decode cX0_offer 37 = .ok (.getfield 11, 3) := by decide +kernel
theorem dX0_offer_40 : decode cX0_offer 40 = .ok (.iload 6, 2) := by decide +kernel
theorem dX0_offer_42 : decode cX0_offer 42 = .ok (.iaload, 1) := by decide +kernel
theorem dX0_offer_43 : decode cX0_offer 43 = .ok (.iload 5, 2) := by decide +kernel
theorem dX0_offer_45 : decode cX0_offer 45 = .ok (.iadd, 1) := by decide +kernel
theorem dX0_offer_46 : decode cX0_offer 46 = .ok (.istore 8, 2) := by decide +kernel
theorem dX0_offer_48 : decode cX0_offer 48 = .ok (.aload_n 0, 1) := by decide +kernel
theorem dX0_offer_49 : decode cX0_offer 49 = .ok (.getfield 18, 3) := by decide +kernel
theorem dX0_offer_52 : decode cX0_offer 52 = .ok (.iload 6, 2) := by decide +kernel
theorem dX0_offer_54 : decode cX0_offer 54 = .ok (.iaload, 1) := by decide +kernel
theorem dX0_offer_55 : decode cX0_offer 55 = .ok (.bipush 11, 2) := by decide +kernel
theorem dX0_offer_57 : decode cX0_offer 57 = .ok (.imul, 1) := by decide +kernel
theorem dX0_offer_58 : decode cX0_offer 58 = .ok (.iload_n 2, 1) := by decide +kernel
theorem dX0_offer_59 : decode cX0_offer 59 = .ok (.iadd, 1) := by decide +kernel
theorem dX0_offer_60 : decode cX0_offer 60 = .ok (.iconst 1, 1) := by decide +kernel
theorem dX0_offer_61 : decode cX0_offer 61 = .ok (.iadd, 1) := by decide +kernel
theorem dX0_offer_62 : decode cX0_offer 62 = .ok (.bipush 40, 2) := by decide +kernel
theorem dX0_offer_64 : decode cX0_offer 64 = .ok (.imul, 1) := by decide +kernel
theorem dX0_offer_65 : decode cX0_offer 65 = .ok (.iload_n 3, 1) := by decide +kernel
theorem dX0_offer_66 : decode cX0_offer 66 = .ok (.iadd, 1) := by decide +kernel
theorem dX0_offer_67 : decode cX0_offer 67 = .ok (.istore 9, 2) := by decide +kernel
theorem dX0_offer_69 : decode cX0_offer 69 = .ok (.iload 8, 2) := by decide +kernel
theorem dX0_offer_71 : decode cX0_offer 71 = .ok (.aload_n 0, 1) := by decide +kernel
theorem dX0_offer_72 : decode cX0_offer 72 = .ok (.getfield 11, 3) := by decide +kernel
theorem dX0_offer_75 : decode cX0_offer 75 = .ok (.iload 7, 2) := by decide +kernel
theorem dX0_offer_77 : decode cX0_offer 77 = .ok (.iaload, 1) := by decide +kernel
theorem dX0_offer_78 : decode cX0_offer 78 = .ok (.if_icmp .lt 27, 3) := by decide +kernel
theorem dX0_offer_81 : decode cX0_offer 81 = .ok (.iload 8, 2) := by decide +kernel
theorem dX0_offer_83 : decode cX0_offer 83 = .ok (.aload_n 0, 1) := by decide +kernel
theorem dX0_offer_84 : decode cX0_offer 84 = .ok (.getfield 11, 3) := by decide +kernel
theorem dX0_offer_87 : decode cX0_offer 87 = .ok (.iload 7, 2) := by decide +kernel
theorem dX0_offer_89 : decode cX0_offer 89 = .ok (.iaload, 1) := by decide +kernel
theorem dX0_offer_90 : decode cX0_offer 90 = .ok (.if_icmp .ne 74, 3) := by decide +kernel
theorem dX0_offer_93 : decode cX0_offer 93 = .ok (.iload 9, 2) := by decide +kernel
theorem dX0_offer_95 : decode cX0_offer 95 = .ok (.aload_n 0, 1) := by decide +kernel
theorem dX0_offer_96 : decode cX0_offer 96 = .ok (.getfield 30, 3) := by decide +kernel
theorem dX0_offer_99 : decode cX0_offer 99 = .ok (.iload 4, 2) := by decide +kernel
theorem dX0_offer_101 : decode cX0_offer 101 = .ok (.iaload, 1) := by decide +kernel
theorem dX0_offer_102 : decode cX0_offer 102 = .ok (.if_icmp .ge 62, 3) := by decide +kernel
theorem dX0_offer_105 : decode cX0_offer 105 = .ok (.aload_n 0, 1) := by decide +kernel
theorem dX0_offer_106 : decode cX0_offer 106 = .ok (.getfield 15, 3) := by decide +kernel
theorem dX0_offer_109 : decode cX0_offer 109 = .ok (.iload 7, 2) := by decide +kernel
theorem dX0_offer_111 : decode cX0_offer 111 = .ok (.aload_n 0, 1) := by decide +kernel
theorem dX0_offer_112 : decode cX0_offer 112 = .ok (.getfield 11, 3) := by decide +kernel
theorem dX0_offer_115 : decode cX0_offer 115 = .ok (.iload 7, 2) := by decide +kernel
theorem dX0_offer_117 : decode cX0_offer 117 = .ok (.iaload, 1) := by decide +kernel
theorem dX0_offer_118 : decode cX0_offer 118 = .ok (.iastore, 1) := by decide +kernel
theorem dX0_offer_119 : decode cX0_offer 119 = .ok (.aload_n 0, 1) := by decide +kernel
theorem dX0_offer_120 : decode cX0_offer 120 = .ok (.getfield 11, 3) := by decide +kernel
theorem dX0_offer_123 : decode cX0_offer 123 = .ok (.iload 7, 2) := by decide +kernel
theorem dX0_offer_125 : decode cX0_offer 125 = .ok (.iload 8, 2) := by decide +kernel
theorem dX0_offer_127 : decode cX0_offer 127 = .ok (.iastore, 1) := by decide +kernel
theorem dX0_offer_128 : decode cX0_offer 128 = .ok (.aload_n 0, 1) := by decide +kernel
theorem dX0_offer_129 : decode cX0_offer 129 = .ok (.getfield 30, 3) := by decide +kernel
theorem dX0_offer_132 : decode cX0_offer 132 = .ok (.iload 4, 2) := by decide +kernel
theorem dX0_offer_134 : decode cX0_offer 134 = .ok (.iload 9, 2) := by decide +kernel
theorem dX0_offer_136 : decode cX0_offer 136 = .ok (.iastore, 1) := by decide +kernel
theorem dX0_offer_137 : decode cX0_offer 137 = .ok (.aload_n 0, 1) := by decide +kernel
theorem dX0_offer_138 : decode cX0_offer 138 = .ok (.getfield 21, 3) := by decide +kernel
theorem dX0_offer_141 : decode cX0_offer 141 = .ok (.iload 7, 2) := by decide +kernel
theorem dX0_offer_143 : decode cX0_offer 143 = .ok (.iload_n 1, 1) := by decide +kernel
theorem dX0_offer_144 : decode cX0_offer 144 = .ok (.iastore, 1) := by decide +kernel
theorem dX0_offer_145 : decode cX0_offer 145 = .ok (.aload_n 0, 1) := by decide +kernel
theorem dX0_offer_146 : decode cX0_offer 146 = .ok (.getfield 24, 3) := by decide +kernel
theorem dX0_offer_149 : decode cX0_offer 149 = .ok (.iload 7, 2) := by decide +kernel
theorem dX0_offer_151 : decode cX0_offer 151 = .ok (.iload_n 2, 1) := by decide +kernel
theorem dX0_offer_152 : decode cX0_offer 152 = .ok (.iastore, 1) := by decide +kernel
theorem dX0_offer_153 : decode cX0_offer 153 = .ok (.aload_n 0, 1) := by decide +kernel
theorem dX0_offer_154 : decode cX0_offer 154 = .ok (.getfield 27, 3) := by decide +kernel
theorem dX0_offer_157 : decode cX0_offer 157 = .ok (.iload 7, 2) := by decide +kernel
theorem dX0_offer_159 : decode cX0_offer 159 = .ok (.iload_n 3, 1) := by decide +kernel
theorem dX0_offer_160 : decode cX0_offer 160 = .ok (.iastore, 1) := by decide +kernel
theorem dX0_offer_161 : decode cX0_offer 161 = .ok (.goto 22, 3) := by decide +kernel
theorem dX0_offer_164 : decode cX0_offer 164 = .ok (.aload_n 0, 1) := by decide +kernel
theorem dX0_offer_165 : decode cX0_offer 165 = .ok (.getfield 15, 3) := by decide +kernel
theorem dX0_offer_168 : decode cX0_offer 168 = .ok (.iload 7, 2) := by decide +kernel
theorem dX0_offer_170 : decode cX0_offer 170 = .ok (.aload_n 0, 1) := by decide +kernel
theorem dX0_offer_171 : decode cX0_offer 171 = .ok (.getfield 15, 3) := by decide +kernel
theorem dX0_offer_174 : decode cX0_offer 174 = .ok (.iload 7, 2) := by decide +kernel
theorem dX0_offer_176 : decode cX0_offer 176 = .ok (.iaload, 1) := by decide +kernel
theorem dX0_offer_177 : decode cX0_offer 177 = .ok (.iload 8, 2) := by decide +kernel
theorem dX0_offer_179 : decode cX0_offer 179 = .ok (.invokestatic 105, 3) := by decide +kernel
theorem dX0_offer_182 : decode cX0_offer 182 = .ok (.iastore, 1) := by decide +kernel
theorem dX0_offer_183 : decode cX0_offer 183 = .ok (.aload_n 0, 1) := by decide +kernel
theorem dX0_offer_184 : decode cX0_offer 184 = .ok (.getfield 15, 3) := by decide +kernel
theorem dX0_offer_187 : decode cX0_offer 187 = .ok (.iload 6, 2) := by decide +kernel
theorem dX0_offer_189 : decode cX0_offer 189 = .ok (.iaload, 1) := by decide +kernel
theorem dX0_offer_190 : decode cX0_offer 190 = .ok (.ldc 33, 2) := by decide +kernel
theorem dX0_offer_192 : decode cX0_offer 192 = .ok (.if_icmp .ge 30, 3) := by decide +kernel
theorem dX0_offer_195 : decode cX0_offer 195 = .ok (.aload_n 0, 1) := by decide +kernel
theorem dX0_offer_196 : decode cX0_offer 196 = .ok (.getfield 15, 3) := by decide +kernel
theorem dX0_offer_199 : decode cX0_offer 199 = .ok (.iload 7, 2) := by decide +kernel
theorem dX0_offer_201 : decode cX0_offer 201 = .ok (.aload_n 0, 1) := by decide +kernel
theorem dX0_offer_202 : decode cX0_offer 202 = .ok (.getfield 15, 3) := by decide +kernel
theorem dX0_offer_205 : decode cX0_offer 205 = .ok (.iload 7, 2) := by decide +kernel
theorem dX0_offer_207 : decode cX0_offer 207 = .ok (.iaload, 1) := by decide +kernel
theorem dX0_offer_208 : decode cX0_offer 208 = .ok (.aload_n 0, 1) := by decide +kernel
theorem dX0_offer_209 : decode cX0_offer 209 = .ok (.getfield 15, 3) := by decide +kernel
theorem dX0_offer_212 : decode cX0_offer 212 = .ok (.iload 6, 2) := by decide +kernel
theorem dX0_offer_214 : decode cX0_offer 214 = .ok (.iaload, 1) := by decide +kernel
theorem dX0_offer_215 : decode cX0_offer 215 = .ok (.iload 5, 2) := by decide +kernel
theorem dX0_offer_217 : decode cX0_offer 217 = .ok (.iadd, 1) := by decide +kernel
theorem dX0_offer_218 : decode cX0_offer 218 = .ok (.invokestatic 105, 3) := by decide +kernel
theorem dX0_offer_221 : decode cX0_offer 221 = .ok (.iastore, 1) := by decide +kernel
theorem dX0_offer_222 : decode cX0_offer 222 = .ok (.return_, 1) := by decide +kernel
set_option maxRecDepth 20000 in
theorem ggX0_rankLevel_X0_isReached : GoodIn wsX0_rankLevel wsX0_isReached := goodIn_r _ [7, 8, 2, 9, 10, 11, 6, 12, 18, 19, 20, 21, 22, 23, 24, 25, 26, 27, 28, 29] (by decide +kernel) (by decide +kernel)
set_option maxRecDepth 20000 in
theorem gX0_rankLevel_X0_isReached : GoodIn wsX0_rankLevel (wsV RX0 54 RX0 yX0_isReached wsX0_isReached) := goodIn_app (goodIn_of _ (by decide +kernel)) ggX0_rankLevel_X0_isReached
set_option maxRecDepth 20000 in
theorem ggX0_rankLevel_X0_cell : GoodIn wsX0_rankLevel wsX0_cell := goodIn_r _ [12] (by decide +kernel) (by decide +kernel)
set_option maxRecDepth 20000 in
theorem gX0_rankLevel_X0_cell : GoodIn wsX0_rankLevel (va_wsS RX0 50 yX0_cell wsX0_cell) := goodIn_app (goodIn_of _ (by decide +kernel)) ggX0_rankLevel_X0_cell
set_option maxRecDepth 20000 in
theorem ggX0_rankLevel_X0_waysAheadOf : GoodIn wsX0_rankLevel wsX0_waysAheadOf := goodIn_r _ [16, 17, 3, 4, 5, 6, 7, 8, 2, 9, 10, 11, 12, 18, 19, 20, 21, 22, 23, 24, 25, 26, 27, 28, 29] (by decide +kernel) (by decide +kernel)
set_option maxRecDepth 20000 in
theorem gX0_rankLevel_X0_waysAheadOf : GoodIn wsX0_rankLevel (wsV RX0 110 RX0 yX0_waysAheadOf wsX0_waysAheadOf) := goodIn_app (goodIn_of _ (by decide +kernel)) ggX0_rankLevel_X0_waysAheadOf
theorem dX0_rankLevel_0 : decode cX0_rankLevel 0 = .ok (.iconst 0, 1) := by decide +kernel
theorem dX0_rankLevel_1 : decode cX0_rankLevel 1 = .ok (.istore_n 1, 1) := by decide +kernel
theorem dX0_rankLevel_2 : decode cX0_rankLevel 2 = .ok (.iload_n 1, 1) := by decide +kernel
theorem dX0_rankLevel_3 : decode cX0_rankLevel 3 = .ok (.bipush 20, 2) := by decide +kernel
theorem dX0_rankLevel_5 : decode cX0_rankLevel 5 = .ok (.if_icmp .ge 35, 3) := by decide +kernel
theorem dX0_rankLevel_8 : decode cX0_rankLevel 8 = .ok (.aload_n 0, 1) := by decide +kernel
theorem dX0_rankLevel_9 : decode cX0_rankLevel 9 = .ok (.iload_n 1, 1) := by decide +kernel
theorem dX0_rankLevel_10 : decode cX0_rankLevel 10 = .ok (.invokevirtual 54, 3) := by decide +kernel
theorem dX0_rankLevel_13 : decode cX0_rankLevel 13 = .ok (.ifCond .eq 21, 3) := by decide +kernel
theorem dX0_rankLevel_16 : decode cX0_rankLevel 16 = .ok (.aload_n 0, 1) := by decide +kernel
theorem dX0_rankLevel_17 : decode cX0_rankLevel 17 = .ok (.getfield 18, 3) := by decide +kernel
theorem dX0_rankLevel_20 : decode cX0_rankLevel 20 = .ok (.aload_n 0, 1) := by decide +kernel
theorem dX0_rankLevel_21 : decode cX0_rankLevel 21 = .ok (.getfield 47, 3) := by decide +kernel
theorem dX0_rankLevel_24 : decode cX0_rankLevel 24 = .ok (.iload_n 1, 1) := by decide +kernel
theorem dX0_rankLevel_25 : decode cX0_rankLevel 25 = .ok (.invokestatic 50, 3) := by decide +kernel
theorem dX0_rankLevel_28 : decode cX0_rankLevel 28 = .ok (.aload_n 0, 1) := by decide +kernel
theorem dX0_rankLevel_29 : decode cX0_rankLevel 29 = .ok (.iload_n 1, 1) := by decide +kernel
theorem dX0_rankLevel_30 : decode cX0_rankLevel 30 = .ok (.invokevirtual 110, 3) := by decide +kernel
theorem dX0_rankLevel_33 : decode cX0_rankLevel 33 = .ok (.iastore, 1) := by decide +kernel
theorem dX0_rankLevel_34 : decode cX0_rankLevel 34 = .ok (.iinc 1 1, 3) := by decide +kernel
theorem dX0_rankLevel_37 : decode cX0_rankLevel 37 = .ok (.goto (-35), 3) := by decide +kernel
theorem dX0_rankLevel_40 : decode cX0_rankLevel 40 = .ok (.return_, 1) := by decide +kernel
set_option maxRecDepth 20000 in
theorem ggX0_waysAheadOf_X0_isReached : GoodIn wsX0_waysAheadOf wsX0_isReached := goodIn_r _ [6, 7, 8, 9, 10, 11, 5, 12, 13, 14, 15, 16, 17, 18, 19, 20, 21, 22, 23, 24] (by decide +kernel) (by decide +kernel)
set_option maxRecDepth 20000 in
theorem gX0_waysAheadOf_X0_isReached : GoodIn wsX0_waysAheadOf (wsV RX0 54 RX0 yX0_isReached wsX0_isReached) := goodIn_app (goodIn_of _ (by decide +kernel)) ggX0_waysAheadOf_X0_isReached
theorem dX0_waysAheadOf_0 : decode cX0_waysAheadOf 0 = .ok (.iconst 0, 1) := by decide +kernel
theorem dX0_waysAheadOf_1 : decode cX0_waysAheadOf 1 = .ok (.istore_n 2, 1) := by decide +kernel
theorem dX0_waysAheadOf_2 : decode cX0_waysAheadOf 2 = .ok (.iload_n 1, 1) := by decide +kernel
theorem dX0_waysAheadOf_3 : decode cX0_waysAheadOf 3 = .ok (.ifCond .lt 9, 3) := by decide +kernel
theorem dX0_waysAheadOf_6 : decode cX0_waysAheadOf 6 = .ok (.iload_n 1, 1) := by decide +kernel
theorem dX0_waysAheadOf_7 : decode cX0_waysAheadOf 7 = .ok (.bipush 20, 2) := by decide +kernel
theorem dX0_waysAheadOf_9 : decode cX0_waysAheadOf 9 = .ok (.if_icmp .lt 5, 3) := by decide +kernel
theorem dX0_waysAheadOf_12 : decode cX0_waysAheadOf 12 = .ok (.iload_n 2, 1) := by decide +kernel
theorem dX0_waysAheadOf_13 : decode cX0_waysAheadOf 13 = .ok (.ireturn, 1) := by decide +kernel
theorem dX0_waysAheadOf_14 : decode cX0_waysAheadOf 14 = .ok (.iconst 0, 1) := by decide +kernel
theorem dX0_waysAheadOf_15 : decode cX0_waysAheadOf 15 = .ok (.istore_n 3, 1) := by decide +kernel
theorem dX0_waysAheadOf_16 : decode cX0_waysAheadOf 16 = .ok (.iload_n 3, 1) := by decide +kernel
theorem dX0_waysAheadOf_17 : decode cX0_waysAheadOf 17 = .ok (.bipush 20, 2) := by decide +kernel
theorem dX0_waysAheadOf_19 : decode cX0_waysAheadOf 19 = .ok (.if_icmp .ge 35, 3) := by decide +kernel
theorem dX0_waysAheadOf_22 : decode cX0_waysAheadOf 22 = .ok (.aload_n 0, 1) := by decide +kernel
theorem dX0_waysAheadOf_23 : decode cX0_waysAheadOf 23 = .ok (.iload_n 3, 1) := by decide +kernel
theorem dX0_waysAheadOf_24 : decode cX0_waysAheadOf 24 = .ok (.invokevirtual 54, 3) := by decide +kernel
theorem dX0_waysAheadOf_27 : decode cX0_waysAheadOf 27 = .ok (.ifCond .eq 21, 3) := by decide +kernel
theorem dX0_waysAheadOf_30 : decode cX0_waysAheadOf 30 = .ok (.aload_n 0, 1) := by decide +kernel
theorem dX0_waysAheadOf_31 : decode cX0_waysAheadOf 31 = .ok (.getfield 30, 3) := by decide +kernel
theorem dX0_waysAheadOf_34 : decode cX0_waysAheadOf 34 = .ok (.iload_n 3, 1) := by decide +kernel
theorem dX0_waysAheadOf_35 : decode cX0_waysAheadOf 35 = .ok (.iaload, 1) := by decide +kernel
theorem dX0_waysAheadOf_36 : decode cX0_waysAheadOf 36 = .ok (.aload_n 0, 1) := by decide +kernel
theorem dX0_waysAheadOf_37 : decode cX0_waysAheadOf 37 = .ok (.getfield 30, 3) := by decide +kernel
theorem dX0_waysAheadOf_40 : decode cX0_waysAheadOf 40 = .ok (.iload_n 1, 1) := by decide +kernel
theorem dX0_waysAheadOf_41 : decode cX0_waysAheadOf 41 = .ok (.iaload, 1) := by decide +kernel
theorem dX0_waysAheadOf_42 : decode cX0_waysAheadOf 42 = .ok (.if_icmp .ge 6, 3) := by decide +kernel
theorem dX0_waysAheadOf_45 : decode cX0_waysAheadOf 45 = .ok (.iinc 2 1, 3) := by decide +kernel
theorem dX0_waysAheadOf_48 : decode cX0_waysAheadOf 48 = .ok (.iinc 3 1, 3) := by decide +kernel
theorem dX0_waysAheadOf_51 : decode cX0_waysAheadOf 51 = .ok (.goto (-35), 3) := by decide +kernel
theorem dX0_waysAheadOf_54 : decode cX0_waysAheadOf 54 = .ok (.iload_n 2, 1) := by decide +kernel
theorem dX0_waysAheadOf_55 : decode cX0_waysAheadOf 55 = .ok (.ireturn, 1) := by decide +kernel
set_option maxRecDepth 20000 in
theorem ggX0_isReached_X0_cell : GoodIn wsX0_isReached wsX0_cell := goodIn_r _ [7] (by decide +kernel) (by decide +kernel)
set_option maxRecDepth 20000 in
theorem gX0_isReached_X0_cell : GoodIn wsX0_isReached (va_wsS RX0 50 yX0_cell wsX0_cell) := goodIn_app (goodIn_of _ (by decide +kernel)) ggX0_isReached_X0_cell
theorem dX0_isReached_0 : decode cX0_isReached 0 = .ok (.aload_n 0, 1) := by decide +kernel
theorem dX0_isReached_1 : decode cX0_isReached 1 = .ok (.getfield 11, 3) := by decide +kernel
theorem dX0_isReached_4 : decode cX0_isReached 4 = .ok (.aload_n 0, 1) := by decide +kernel
theorem dX0_isReached_5 : decode cX0_isReached 5 = .ok (.getfield 47, 3) := by decide +kernel
theorem dX0_isReached_8 : decode cX0_isReached 8 = .ok (.iload_n 1, 1) := by decide +kernel
theorem dX0_isReached_9 : decode cX0_isReached 9 = .ok (.invokestatic 50, 3) := by decide +kernel
theorem dX0_isReached_12 : decode cX0_isReached 12 = .ok (.iaload, 1) := by decide +kernel
theorem dX0_isReached_13 : decode cX0_isReached 13 = .ok (.ldc 33, 2) := by decide +kernel
theorem dX0_isReached_15 : decode cX0_isReached 15 = .ok (.if_icmp .ge 7, 3) := by decide +kernel
theorem dX0_isReached_18 : decode cX0_isReached 18 = .ok (.iconst 1, 1) := by decide +kernel
theorem dX0_isReached_19 : decode cX0_isReached 19 = .ok (.goto 4, 3) := by decide +kernel
theorem dX0_isReached_22 : decode cX0_isReached 22 = .ok (.iconst 0, 1) := by decide +kernel
theorem dX0_isReached_23 : decode cX0_isReached 23 = .ok (.ireturn, 1) := by decide +kernel
set_option maxRecDepth 20000 in
theorem ggX0_finish_X4_nodeOf : GoodIn wsX0_finish wsX4_nodeOf := goodIn_r _ [9] (by decide +kernel) (by decide +kernel)
set_option maxRecDepth 20000 in
theorem gX0_finish_X4_nodeOf_n119 : GoodIn wsX0_finish (wsX4_nodeOf) := ggX0_finish_X4_nodeOf
set_option maxRecDepth 20000 in
theorem ggX0_finish_X0_isReached : GoodIn wsX0_finish wsX0_isReached := goodIn_r _ [14, 15, 6, 1, 16, 17, 13, 18, 46, 47, 48, 49, 50, 51, 52, 53, 54, 55, 56, 57] (by decide +kernel) (by decide +kernel)
set_option maxRecDepth 20000 in
theorem gX0_finish_X0_isReached : GoodIn wsX0_finish (wsV RX0 54 RX0 yX0_isReached wsX0_isReached) := goodIn_app (goodIn_of _ (by decide +kernel)) ggX0_finish_X0_isReached
set_option maxRecDepth 20000 in
theorem ggX0_finish_X1_canEnd : GoodIn wsX0_finish wsX1_canEnd := goodIn_r _ [23, 24, 25, 26, 27, 28, 22, 29, 30, 58, 59, 60, 61, 62, 63, 64, 65, 66, 67, 68] (by decide +kernel) (by decide +kernel)
set_option maxRecDepth 20000 in
theorem gX0_finish_X1_canEnd : GoodIn wsX0_finish (wsV RX0 81 RX1 yX1_canEnd wsX1_canEnd) := goodIn_app (goodIn_of _ (by decide +kernel)) ggX0_finish_X1_canEnd
set_option maxRecDepth 20000 in
theorem ggX0_finish_X1_costOfEnd : GoodIn wsX0_finish wsX1_costOfEnd := goodIn_r _ [34, 35, 26, 27, 28, 22, 29, 30, 58, 59, 60, 61, 62, 63, 64, 65, 66, 67, 68] (by decide +kernel) (by decide +kernel)
set_option maxRecDepth 20000 in
theorem gX0_finish_X1_costOfEnd : GoodIn wsX0_finish (wsV RX0 95 RX1 yX1_costOfEnd wsX1_costOfEnd) := goodIn_app (goodIn_of _ (by decide +kernel)) ggX0_finish_X1_costOfEnd
set_option maxRecDepth 20000 in
theorem ggX0_finish_X0_offerLast : GoodIn wsX0_finish wsX0_offerLast := goodIn_r _ [39, 6, 15, 2, 40, 4, 3, 5, 41, 42, 43, 44, 45, 1, 16, 17, 13, 18, 46, 47, 48, 49, 50, 51, 52, 53, 54, 55, 56, 57] (by decide +kernel) (by decide +kernel)
set_option maxRecDepth 20000 in
theorem gX0_finish_X0_offerLast : GoodIn wsX0_finish (wsV RX0 122 RX0 yX0_offerLast wsX0_offerLast) := goodIn_app (goodIn_of _ (by decide +kernel)) ggX0_finish_X0_offerLast
theorem dX0_finish_0 : decode cX0_finish 0 = .ok (.aload_n 0, 1) := by decide +kernel
theorem dX0_finish_1 : decode cX0_finish 1 = .ok (.ldc 33, 2) := by decide +kernel
theorem dX0_finish_3 : decode cX0_finish 3 = .ok (.putfield 34, 3) := by decide +kernel
theorem dX0_finish_6 : decode cX0_finish 6 = .ok (.aload_n 0, 1) := by decide +kernel
theorem dX0_finish_7 : decode cX0_finish 7 = .ok (.ldc 33, 2) := by decide +kernel
theorem dX0_finish_9 : decode cX0_finish 9 = .ok (.putfield 38, 3) := by decide +kernel
theorem dX0_finish_12 : decode cX0_finish 12 = .ok (.aload_n 0, 1) := by decide +kernel
theorem dX0_finish_13 : decode cX0_finish 13 = .ok (.iconst 0, 1) := by decide +kernel
theorem dX0_finish_14 : decode cX0_finish 14 = .ok (.putfield 113, 3) := by decide +kernel
theorem dX0_finish_17 : decode cX0_finish 17 = .ok (.aload_n 0, 1) := by decide +kernel
theorem dX0_finish_18 : decode cX0_finish 18 = .ok (.iconst (-1), 1) := by decide +kernel
theorem dX0_finish_19 : decode cX0_finish 19 = .ok (.putfield 116, 3) := by decide +kernel
theorem dX0_finish_22 : decode cX0_finish 22 = .ok (.aload_n 0, 1) := by decide +kernel
theorem dX0_finish_23 : decode cX0_finish 23 = .ok (.getfield 47, 3) := by decide +kernel
theorem dX0_finish_26 : decode cX0_finish 26 = .ok (.ifCond .gt 4, 3) := by decide +kernel
theorem dX0_finish_29 : decode cX0_finish 29 = .ok (.return_, 1) := by decide +kernel
theorem dX0_finish_30 : decode cX0_finish 30 = .ok (.iconst 0, 1) := by decide +kernel
theorem dX0_finish_31 : decode cX0_finish 31 = .ok (.istore_n 2, 1) := by decide +kernel
theorem dX0_finish_32 : decode cX0_finish 32 = .ok (.iload_n 2, 1) := by decide +kernel
theorem dX0_finish_33 : decode cX0_finish 33 = .ok (.bipush 10, 2) := by decide +kernel
theorem dX0_finish_35 : decode cX0_finish 35 = .ok (.if_icmp .ge 65, 3) := by decide +kernel
theorem dX0_finish_38 : decode cX0_finish 38 = .ok (.iload_n 2, 1) := by decide +kernel
theorem dX0_finish_39 : decode cX0_finish 39 = .ok (.iconst 0, 1) := by decide +kernel
theorem dX0_finish_40 : decode cX0_finish 40 = .ok (.invokestatic 119, 3) := by decide +kernel
theorem dX0_finish_43 : decode cX0_finish 43 = .ok (.istore_n 3, 1) := by decide +kernel
theorem dX0_finish_44 : decode cX0_finish 44 = .ok (.iconst 0, 1) := by decide +kernel
theorem dX0_finish_45 : decode cX0_finish 45 = .ok (.istore 4, 2) := by decide +kernel
theorem dX0_finish_47 : decode cX0_finish 47 = .ok (.iload 4, 2) := by decide +kernel
theorem dX0_finish_49 : decode cX0_finish 49 = .ok (.aload_n 1, 1) := by decide +kernel
theorem dX0_finish_50 : decode cX0_finish 50 = .ok (.getfield 73, 3) := by decide +kernel
theorem dX0_finish_53 : decode cX0_finish 53 = .ok (.if_icmp .ge 41, 3) := by decide +kernel
theorem dX0_finish_56 : decode cX0_finish 56 = .ok (.aload_n 0, 1) := by decide +kernel
theorem dX0_finish_57 : decode cX0_finish 57 = .ok (.iload_n 3, 1) := by decide +kernel
theorem dX0_finish_58 : decode cX0_finish 58 = .ok (.invokevirtual 54, 3) := by decide +kernel
theorem dX0_finish_61 : decode cX0_finish 61 = .ok (.ifCond .eq 27, 3) := by decide +kernel
theorem dX0_finish_64 : decode cX0_finish 64 = .ok (.aload_n 1, 1) := by decide +kernel
theorem dX0_finish_65 : decode cX0_finish 65 = .ok (.iload 4, 2) := by decide +kernel
theorem dX0_finish_67 : decode cX0_finish 67 = .ok (.iload_n 2, 1) := by decide +kernel
theorem dX0_finish_68 : decode cX0_finish 68 = .ok (.iconst (-1), 1) := by decide +kernel
theorem dX0_finish_69 : decode cX0_finish 69 = .ok (.invokevirtual 81, 3) := by decide +kernel
theorem dX0_finish_72 : decode cX0_finish 72 = .ok (.ifCond .eq 16, 3) := by decide +kernel
theorem dX0_finish_75 : decode cX0_finish 75 = .ok (.aload_n 0, 1) := by decide +kernel
theorem dX0_finish_76 : decode cX0_finish 76 = .ok (.iload_n 3, 1) := by decide +kernel
theorem dX0_finish_77 : decode cX0_finish 77 = .ok (.iload 4, 2) := by decide +kernel
theorem dX0_finish_79 : decode cX0_finish 79 = .ok (.aload_n 1, 1) := by decide +kernel
theorem dX0_finish_80 : decode cX0_finish 80 = .ok (.iload 4, 2) := by decide +kernel
theorem dX0_finish_82 : decode cX0_finish 82 = .ok (.invokevirtual 95, 3) := by decide +kernel
theorem dX0_finish_85 : decode cX0_finish 85 = .ok (.invokevirtual 122, 3) := by decide +kernel
theorem dX0_finish_88 : decode cX0_finish 88 = .ok (.iinc 4 1, 3) := by decide +kernel
theorem dX0_finish_91 : decode cX0_finish 91 = .ok (.goto (-44), 3) := by decide +kernel
theorem dX0_finish_94 : decode cX0_finish 94 = .ok (.iinc 2 1, 3) := by decide +kernel
theorem dX0_finish_97 : decode cX0_finish 97 = .ok (.goto (-65), 3) := by decide +kernel
theorem dX0_finish_100 : decode cX0_finish 100 = .ok (.return_, 1) := by decide +kernel
set_option maxRecDepth 20000 in
theorem ggX0_offerLast_X0_cell : GoodIn wsX0_offerLast wsX0_cell := goodIn_r _ [17] (by decide +kernel) (by decide +kernel)
set_option maxRecDepth 20000 in
theorem gX0_offerLast_X0_cell : GoodIn wsX0_offerLast (va_wsS RX0 50 yX0_cell wsX0_cell) := goodIn_app (goodIn_of _ (by decide +kernel)) ggX0_offerLast_X0_cell
theorem dX0_offerLast_0 : decode cX0_offerLast 0 = .ok (.aload_n 0, 1) := by decide +kernel
theorem dX0_offerLast_1 : decode cX0_offerLast 1 = .ok (.getfield 47, 3) := by decide +kernel
theorem dX0_offerLast_4 : decode cX0_offerLast 4 = .ok (.iload_n 1, 1) := by decide +kernel
theorem dX0_offerLast_5 : decode cX0_offerLast 5 = .ok (.invokestatic 50, 3) := by decide +kernel
theorem dX0_offerLast_8 : decode cX0_offerLast 8 = .ok (.istore 4, 2) := by decide +kernel
theorem dX0_offerLast_10 : decode cX0_offerLast 10 = .ok (.aload_n 0, 1) := by decide +kernel
theorem dX0_offerLast_11 : decode cX0_offerLast 11 = .ok (.getfield 11, 3) := by decide +kernel
theorem dX0_offerLast_14 : decode cX0_offerLast 14 = .ok (.iload 4, 2) := by decide +kernel
theorem dX0_offerLast_16 : decode cX0_offerLast 16 = .ok (.iaload, 1) := by decide +kernel
theorem dX0_offerLast_17 : decode cX0_offerLast 17 = .ok (.iload_n 3, 1) := by decide +kernel
theorem dX0_offerLast_18 : decode cX0_offerLast 18 = .ok (.iadd, 1) := by decide +kernel
theorem dX0_offerLast_19 : decode cX0_offerLast 19 = .ok (.istore 5, 2) := by decide +kernel
theorem dX0_offerLast_21 : decode cX0_offerLast 21 = .ok (.iload 5, 2) := by decide +kernel
theorem dX0_offerLast_23 : decode cX0_offerLast 23 = .ok (.aload_n 0, 1) := by decide +kernel
theorem dX0_offerLast_24 : decode cX0_offerLast 24 = .ok (.getfield 34, 3) := by decide +kernel
theorem dX0_offerLast_27 : decode cX0_offerLast 27 = .ok (.if_icmp .ne 33, 3) := by decide +kernel
theorem dX0_offerLast_30 : decode cX0_offerLast 30 = .ok (.aload_n 0, 1) := by decide +kernel
theorem dX0_offerLast_31 : decode cX0_offerLast 31 = .ok (.getfield 18, 3) := by decide +kernel
theorem dX0_offerLast_34 : decode cX0_offerLast 34 = .ok (.iload 4, 2) := by decide +kernel
theorem dX0_offerLast_36 : decode cX0_offerLast 36 = .ok (.iaload, 1) := by decide +kernel
theorem dX0_offerLast_37 : decode cX0_offerLast 37 = .ok (.aload_n 0, 1) := by decide +kernel
theorem dX0_offerLast_38 : decode cX0_offerLast 38 = .ok (.getfield 18, 3) := by decide +kernel
theorem dX0_offerLast_41 : decode cX0_offerLast 41 = .ok (.aload_n 0, 1) := by decide +kernel
theorem dX0_offerLast_42 : decode cX0_offerLast 42 = .ok (.getfield 47, 3) := by decide +kernel
theorem dX0_offerLast_45 : decode cX0_offerLast 45 = .ok (.aload_n 0, 1) := by decide +kernel
theorem dX0_offerLast_46 : decode cX0_offerLast 46 = .ok (.getfield 113, 3) := by decide +kernel
theorem dX0_offerLast_49 : decode cX0_offerLast 49 = .ok (.invokestatic 50, 3) := by decide +kernel
theorem dX0_offerLast_52 : decode cX0_offerLast 52 = .ok (.iaload, 1) := by decide +kernel
theorem dX0_offerLast_53 : decode cX0_offerLast 53 = .ok (.if_icmp .ge 7, 3) := by decide +kernel
theorem dX0_offerLast_56 : decode cX0_offerLast 56 = .ok (.iconst 1, 1) := by decide +kernel
theorem dX0_offerLast_57 : decode cX0_offerLast 57 = .ok (.goto 4, 3) := by decide +kernel
theorem dX0_offerLast_60 : decode cX0_offerLast 60 = .ok (.iconst 0, 1) := by decide +kernel
theorem dX0_offerLast_61 : decode cX0_offerLast 61 = .ok (.istore 6, 2) := by decide +kernel
theorem dX0_offerLast_63 : decode cX0_offerLast 63 = .ok (.iload 5, 2) := by decide +kernel
theorem dX0_offerLast_65 : decode cX0_offerLast 65 = .ok (.aload_n 0, 1) := by decide +kernel
theorem dX0_offerLast_66 : decode cX0_offerLast 66 = .ok (.getfield 34, 3) := by decide +kernel
theorem dX0_offerLast_69 : decode cX0_offerLast 69 = .ok (.if_icmp .lt 8, 3) := by decide +kernel
theorem dX0_offerLast_72 : decode cX0_offerLast 72 = .ok (.iload 6, 2) := by decide +kernel
theorem dX0_offerLast_74 : decode cX0_offerLast 74 = .ok (.ifCond .eq 30, 3) := by decide +kernel
theorem dX0_offerLast_77 : decode cX0_offerLast 77 = .ok (.aload_n 0, 1) := by decide +kernel
theorem dX0_offerLast_78 : decode cX0_offerLast 78 = .ok (.aload_n 0, 1) := by decide +kernel
theorem dX0_offerLast_79 : decode cX0_offerLast 79 = .ok (.getfield 34, 3) := by decide +kernel
theorem dX0_offerLast_82 : decode cX0_offerLast 82 = .ok (.putfield 38, 3) := by decide +kernel
theorem dX0_offerLast_85 : decode cX0_offerLast 85 = .ok (.aload_n 0, 1) := by decide +kernel
theorem dX0_offerLast_86 : decode cX0_offerLast 86 = .ok (.iload 5, 2) := by decide +kernel
theorem dX0_offerLast_88 : decode cX0_offerLast 88 = .ok (.putfield 34, 3) := by decide +kernel
theorem dX0_offerLast_91 : decode cX0_offerLast 91 = .ok (.aload_n 0, 1) := by decide +kernel
theorem dX0_offerLast_92 : decode cX0_offerLast 92 = .ok (.iload_n 1, 1) := by decide +kernel
theorem dX0_offerLast_93 : decode cX0_offerLast 93 = .ok (.putfield 113, 3) := by decide +kernel
theorem dX0_offerLast_96 : decode cX0_offerLast 96 = .ok (.aload_n 0, 1) := by decide +kernel
theorem dX0_offerLast_97 : decode cX0_offerLast 97 = .ok (.iload_n 2, 1) := by decide +kernel
theorem dX0_offerLast_98 : decode cX0_offerLast 98 = .ok (.putfield 116, 3) := by decide +kernel
theorem dX0_offerLast_101 : decode cX0_offerLast 101 = .ok (.goto 16, 3) := by decide +kernel
theorem dX0_offerLast_104 : decode cX0_offerLast 104 = .ok (.aload_n 0, 1) := by decide +kernel
theorem dX0_offerLast_105 : decode cX0_offerLast 105 = .ok (.aload_n 0, 1) := by decide +kernel
theorem dX0_offerLast_106 : decode cX0_offerLast 106 = .ok (.getfield 38, 3) := by decide +kernel
theorem dX0_offerLast_109 : decode cX0_offerLast 109 = .ok (.iload 5, 2) := by decide +kernel
theorem dX0_offerLast_111 : decode cX0_offerLast 111 = .ok (.invokestatic 105, 3) := by decide +kernel
theorem dX0_offerLast_114 : decode cX0_offerLast 114 = .ok (.putfield 38, 3) := by decide +kernel
theorem dX0_offerLast_117 : decode cX0_offerLast 117 = .ok (.aload_n 0, 1) := by decide +kernel
theorem dX0_offerLast_118 : decode cX0_offerLast 118 = .ok (.getfield 15, 3) := by decide +kernel
theorem dX0_offerLast_121 : decode cX0_offerLast 121 = .ok (.iload 4, 2) := by decide +kernel
theorem dX0_offerLast_123 : decode cX0_offerLast 123 = .ok (.iaload, 1) := by decide +kernel
theorem dX0_offerLast_124 : decode cX0_offerLast 124 = .ok (.ldc 33, 2) := by decide +kernel
theorem dX0_offerLast_126 : decode cX0_offerLast 126 = .ok (.if_icmp .ge 23, 3) := by decide +kernel
theorem dX0_offerLast_129 : decode cX0_offerLast 129 = .ok (.aload_n 0, 1) := by decide +kernel
theorem dX0_offerLast_130 : decode cX0_offerLast 130 = .ok (.aload_n 0, 1) := by decide +kernel
theorem dX0_offerLast_131 : decode cX0_offerLast 131 = .ok (.getfield 38, 3) := by decide +kernel
theorem dX0_offerLast_134 : decode cX0_offerLast 134 = .ok (.aload_n 0, 1) := by decide +kernel
theorem dX0_offerLast_135 : decode cX0_offerLast 135 = .ok (.getfield 15, 3) := by decide +kernel
theorem dX0_offerLast_138 : decode cX0_offerLast 138 = .ok (.iload 4, 2) := by decide +kernel
theorem dX0_offerLast_140 : decode cX0_offerLast 140 = .ok (.iaload, 1) := by decide +kernel
theorem dX0_offerLast_141 : decode cX0_offerLast 141 = .ok (.iload_n 3, 1) := by decide +kernel
theorem dX0_offerLast_142 : decode cX0_offerLast 142 = .ok (.iadd, 1) := by decide +kernel
theorem dX0_offerLast_143 : decode cX0_offerLast 143 = .ok (.invokestatic 105, 3) := by decide +kernel
theorem dX0_offerLast_146 : decode cX0_offerLast 146 = .ok (.putfield 38, 3) := by decide +kernel
theorem dX0_offerLast_149 : decode cX0_offerLast 149 = .ok (.return_, 1) := by decide +kernel
set_option maxRecDepth 20000 in
theorem ggX0_endInto_X0_cell : GoodIn wsX0_endInto wsX0_cell := goodIn_r _ [5] (by decide +kernel) (by decide +kernel)
set_option maxRecDepth 20000 in
theorem gX0_endInto_X0_cell : GoodIn wsX0_endInto (va_wsS RX0 50 yX0_cell wsX0_cell) := goodIn_app (goodIn_of _ (by decide +kernel)) ggX0_endInto_X0_cell
theorem dX0_endInto_0 : decode cX0_endInto 0 = .ok (.aload_n 0, 1) := by decide +kernel
theorem dX0_endInto_1 : decode cX0_endInto 1 = .ok (.getfield 24, 3) := by decide +kernel
theorem dX0_endInto_4 : decode cX0_endInto 4 = .ok (.iload_n 1, 1) := by decide +kernel
theorem dX0_endInto_5 : decode cX0_endInto 5 = .ok (.iload_n 2, 1) := by decide +kernel
theorem dX0_endInto_6 : decode cX0_endInto 6 = .ok (.invokestatic 50, 3) := by decide +kernel
theorem dX0_endInto_9 : decode cX0_endInto 9 = .ok (.iaload, 1) := by decide +kernel
theorem dX0_endInto_10 : decode cX0_endInto 10 = .ok (.ireturn, 1) := by decide +kernel
set_option maxRecDepth 20000 in
theorem ggX0_goInto_X0_cell : GoodIn wsX0_goInto wsX0_cell := goodIn_r _ [5] (by decide +kernel) (by decide +kernel)
set_option maxRecDepth 20000 in
theorem gX0_goInto_X0_cell : GoodIn wsX0_goInto (va_wsS RX0 50 yX0_cell wsX0_cell) := goodIn_app (goodIn_of _ (by decide +kernel)) ggX0_goInto_X0_cell
theorem dX0_goInto_0 : decode cX0_goInto 0 = .ok (.aload_n 0, 1) := by decide +kernel
theorem dX0_goInto_1 : decode cX0_goInto 1 = .ok (.getfield 27, 3) := by decide +kernel
theorem dX0_goInto_4 : decode cX0_goInto 4 = .ok (.iload_n 1, 1) := by decide +kernel
theorem dX0_goInto_5 : decode cX0_goInto 5 = .ok (.iload_n 2, 1) := by decide +kernel
theorem dX0_goInto_6 : decode cX0_goInto 6 = .ok (.invokestatic 50, 3) := by decide +kernel
theorem dX0_goInto_9 : decode cX0_goInto 9 = .ok (.iaload, 1) := by decide +kernel
theorem dX0_goInto_10 : decode cX0_goInto 10 = .ok (.ireturn, 1) := by decide +kernel
set_option maxRecDepth 20000 in
theorem ggX0_nodeBehind_X0_cell : GoodIn wsX0_nodeBehind wsX0_cell := goodIn_r _ [7] (by decide +kernel) (by decide +kernel)
set_option maxRecDepth 20000 in
theorem gX0_nodeBehind_X0_cell : GoodIn wsX0_nodeBehind (va_wsS RX0 50 yX0_cell wsX0_cell) := goodIn_app (goodIn_of _ (by decide +kernel)) ggX0_nodeBehind_X0_cell
theorem dX0_nodeBehind_0 : decode cX0_nodeBehind 0 = .ok (.aload_n 0, 1) := by decide +kernel
theorem dX0_nodeBehind_1 : decode cX0_nodeBehind 1 = .ok (.getfield 113, 3) := by decide +kernel
theorem dX0_nodeBehind_4 : decode cX0_nodeBehind 4 = .ok (.istore_n 2, 1) := by decide +kernel
theorem dX0_nodeBehind_5 : decode cX0_nodeBehind 5 = .ok (.aload_n 0, 1) := by decide +kernel
theorem dX0_nodeBehind_6 : decode cX0_nodeBehind 6 = .ok (.getfield 47, 3) := by decide +kernel
theorem dX0_nodeBehind_9 : decode cX0_nodeBehind 9 = .ok (.istore_n 3, 1) := by decide +kernel
theorem dX0_nodeBehind_10 : decode cX0_nodeBehind 10 = .ok (.iload_n 3, 1) := by decide +kernel
theorem dX0_nodeBehind_11 : decode cX0_nodeBehind 11 = .ok (.iload_n 1, 1) := by decide +kernel
theorem dX0_nodeBehind_12 : decode cX0_nodeBehind 12 = .ok (.iconst 1, 1) := by decide +kernel
theorem dX0_nodeBehind_13 : decode cX0_nodeBehind 13 = .ok (.iadd, 1) := by decide +kernel
theorem dX0_nodeBehind_14 : decode cX0_nodeBehind 14 = .ok (.if_icmp .le 20, 3) := by decide +kernel
theorem dX0_nodeBehind_17 : decode cX0_nodeBehind 17 = .ok (.aload_n 0, 1) := by decide +kernel
theorem dX0_nodeBehind_18 : decode cX0_nodeBehind 18 = .ok (.getfield 21, 3) := by decide +kernel
theorem dX0_nodeBehind_21 : decode cX0_nodeBehind 21 = .ok (.iload_n 3, 1) := by decide +kernel
theorem dX0_nodeBehind_22 : decode cX0_nodeBehind 22 = .ok (.iload_n 2, 1) := by decide +kernel
theorem dX0_nodeBehind_23 : decode cX0_nodeBehind 23 = .ok (.invokestatic 50, 3) := by decide +kernel
theorem dX0_nodeBehind_26 : decode cX0_nodeBehind 26 = .ok (.iaload, 1) := by decide +kernel
theorem dX0_nodeBehind_27 : decode cX0_nodeBehind 27 = .ok (.istore_n 2, 1) := by decide +kernel
theorem dX0_nodeBehind_28 : decode cX0_nodeBehind 28 = .ok (.iinc 3 (-1), 3) := by decide +kernel
theorem dX0_nodeBehind_31 : decode cX0_nodeBehind 31 = .ok (.goto (-21), 3) := by decide +kernel
theorem dX0_nodeBehind_34 : decode cX0_nodeBehind 34 = .ok (.iload_n 2, 1) := by decide +kernel
theorem dX0_nodeBehind_35 : decode cX0_nodeBehind 35 = .ok (.ireturn, 1) := by decide +kernel
set_option maxRecDepth 20000 in
theorem ggX0_endsInside_X0_endInto : GoodIn wsX0_endsInside wsX0_endInto := goodIn_r _ [8, 9, 10, 11, 7, 12, 13, 14, 15, 16, 17, 18, 19, 20, 21, 22, 23, 24] (by decide +kernel) (by decide +kernel)
set_option maxRecDepth 20000 in
theorem gX0_endsInside_X0_endInto : GoodIn wsX0_endsInside (wsV RX0 126 RX0 yX0_endInto wsX0_endInto) := goodIn_app (goodIn_of _ (by decide +kernel)) ggX0_endsInside_X0_endInto
set_option maxRecDepth 20000 in
theorem ggX0_endsInside_X0_cell : GoodIn wsX0_endsInside wsX0_cell := goodIn_r _ [12] (by decide +kernel) (by decide +kernel)
set_option maxRecDepth 20000 in
theorem gX0_endsInside_X0_cell : GoodIn wsX0_endsInside (va_wsS RX0 50 yX0_cell wsX0_cell) := goodIn_app (goodIn_of _ (by decide +kernel)) ggX0_endsInside_X0_cell
theorem dX0_endsInside_0 : decode cX0_endsInside 0 = .ok (.iconst 0, 1) := by decide +kernel
theorem dX0_endsInside_1 : decode cX0_endsInside 1 = .ok (.istore_n 1, 1) := by decide +kernel
theorem dX0_endsInside_2 : decode cX0_endsInside 2 = .ok (.aload_n 0, 1) := by decide +kernel
theorem dX0_endsInside_3 : decode cX0_endsInside 3 = .ok (.getfield 113, 3) := by decide +kernel
theorem dX0_endsInside_6 : decode cX0_endsInside 6 = .ok (.istore_n 2, 1) := by decide +kernel
theorem dX0_endsInside_7 : decode cX0_endsInside 7 = .ok (.aload_n 0, 1) := by decide +kernel
theorem dX0_endsInside_8 : decode cX0_endsInside 8 = .ok (.getfield 47, 3) := by decide +kernel
theorem dX0_endsInside_11 : decode cX0_endsInside 11 = .ok (.istore_n 3, 1) := by decide +kernel
theorem dX0_endsInside_12 : decode cX0_endsInside 12 = .ok (.iload_n 3, 1) := by decide +kernel
theorem dX0_endsInside_13 : decode cX0_endsInside 13 = .ok (.ifCond .le 33, 3) := by decide +kernel
theorem dX0_endsInside_16 : decode cX0_endsInside 16 = .ok (.aload_n 0, 1) := by decide +kernel
theorem dX0_endsInside_17 : decode cX0_endsInside 17 = .ok (.iload_n 3, 1) := by decide +kernel
theorem dX0_endsInside_18 : decode cX0_endsInside 18 = .ok (.iload_n 2, 1) := by decide +kernel
theorem dX0_endsInside_19 : decode cX0_endsInside 19 = .ok (.invokevirtual 126, 3) := by decide +kernel
theorem dX0_endsInside_22 : decode cX0_endsInside 22 = .ok (.iconst (-1), 1) := by decide +kernel
theorem dX0_endsInside_23 : decode cX0_endsInside 23 = .ok (.if_icmp .eq 6, 3) := by decide +kernel
theorem dX0_endsInside_26 : decode cX0_endsInside 26 = .ok (.iinc 1 1, 3) := by decide +kernel
theorem dX0_endsInside_29 : decode cX0_endsInside 29 = .ok (.aload_n 0, 1) := by decide +kernel
theorem dX0_endsInside_30 : decode cX0_endsInside 30 = .ok (.getfield 21, 3) := by decide +kernel
theorem dX0_endsInside_33 : decode cX0_endsInside 33 = .ok (.iload_n 3, 1) := by decide +kernel
theorem dX0_endsInside_34 : decode cX0_endsInside 34 = .ok (.iload_n 2, 1) := by decide +kernel
theorem dX0_endsInside_35 : decode cX0_endsInside 35 = .ok (.invokestatic 50, 3) := by decide +kernel
theorem dX0_endsInside_38 : decode cX0_endsInside 38 = .ok (.iaload, 1) := by decide +kernel
theorem dX0_endsInside_39 : decode cX0_endsInside 39 = .ok (.istore_n 2, 1) := by decide +kernel
theorem dX0_endsInside_40 : decode cX0_endsInside 40 = .ok (.iinc 3 (-1), 3) := by decide +kernel
theorem dX0_endsInside_43 : decode cX0_endsInside 43 = .ok (.goto (-31), 3) := by decide +kernel
theorem dX0_endsInside_46 : decode cX0_endsInside 46 = .ok (.iload_n 1, 1) := by decide +kernel
theorem dX0_endsInside_47 : decode cX0_endsInside 47 = .ok (.ireturn, 1) := by decide +kernel
set_option maxRecDepth 20000 in
theorem ggX0_sharedSteps_X0_isReached : GoodIn wsX0_sharedSteps wsX0_isReached := goodIn_r _ [10, 11, 1, 12, 13, 14, 9, 15, 27, 28, 29, 30, 31, 32, 33, 34, 35, 36, 37, 38] (by decide +kernel) (by decide +kernel)
set_option maxRecDepth 20000 in
theorem gX0_sharedSteps_X0_isReached : GoodIn wsX0_sharedSteps (wsV RX0 54 RX0 yX0_isReached wsX0_isReached) := goodIn_app (goodIn_of _ (by decide +kernel)) ggX0_sharedSteps_X0_isReached
set_option maxRecDepth 20000 in
theorem ggX0_sharedSteps_X1_isHopeful : GoodIn wsX0_sharedSteps wsX1_isHopeful := goodIn_r _ [20, 21, 39, 40, 41, 42, 43, 44, 45, 46, 47, 48, 49] (by decide +kernel) (by decide +kernel)
set_option maxRecDepth 20000 in
theorem gX0_sharedSteps_X1_isHopeful : GoodIn wsX0_sharedSteps (wsV RX0 129 RX1 yX1_isHopeful wsX1_isHopeful) := goodIn_app (goodIn_of _ (by decide +kernel)) ggX0_sharedSteps_X1_isHopeful
set_option maxRecDepth 20000 in
theorem ggX0_sharedSteps_X0_meetingLevel : GoodIn wsX0_sharedSteps wsX0_meetingLevel := goodIn_r _ [25, 1, 26, 13, 14, 9, 15, 27, 28, 29, 30, 31, 32, 33, 34, 35, 36, 37, 38] (by decide +kernel) (by decide +kernel)
set_option maxRecDepth 20000 in
theorem gX0_sharedSteps_X0_meetingLevel : GoodIn wsX0_sharedSteps (wsV RX0 132 RX0 yX0_meetingLevel wsX0_meetingLevel) := goodIn_app (goodIn_of _ (by decide +kernel)) ggX0_sharedSteps_X0_meetingLevel
theorem dX0_sharedSteps_0 : decode cX0_sharedSteps 0 = .ok (.iconst (-1), 1) := by decide +kernel
theorem dX0_sharedSteps_1 : decode cX0_sharedSteps 1 = .ok (.istore_n 2, 1) := by decide +kernel
theorem dX0_sharedSteps_2 : decode cX0_sharedSteps 2 = .ok (.iconst 0, 1) := by decide +kernel
theorem dX0_sharedSteps_3 : decode cX0_sharedSteps 3 = .ok (.istore_n 3, 1) := by decide +kernel
theorem dX0_sharedSteps_4 : decode cX0_sharedSteps 4 = .ok (.iconst 0, 1) := by decide +kernel
theorem dX0_sharedSteps_5 : decode cX0_sharedSteps 5 = .ok (.istore 4, 2) := by decide +kernel
theorem dX0_sharedSteps_7 : decode cX0_sharedSteps 7 = .ok (.iload 4, 2) := by decide +kernel
theorem dX0_sharedSteps_9 : decode cX0_sharedSteps 9 = .ok (.bipush 20, 2) := by decide +kernel
theorem dX0_sharedSteps_11 : decode cX0_sharedSteps 11 = .ok (.if_icmp .ge 63, 3) := by decide +kernel
theorem dX0_sharedSteps_14 : decode cX0_sharedSteps 14 = .ok (.aload_n 0, 1) := by decide +kernel
theorem dX0_sharedSteps_15 : decode cX0_sharedSteps 15 = .ok (.iload 4, 2) := by decide +kernel
theorem dX0_sharedSteps_17 : decode cX0_sharedSteps 17 = .ok (.invokevirtual 54, 3) := by decide +kernel
theorem dX0_sharedSteps_20 : decode cX0_sharedSteps 20 = .ok (.ifCond .eq 48, 3) := by decide +kernel
theorem dX0_sharedSteps_23 : decode cX0_sharedSteps 23 = .ok (.aload_n 1, 1) := by decide +kernel
theorem dX0_sharedSteps_24 : decode cX0_sharedSteps 24 = .ok (.iload 4, 2) := by decide +kernel
theorem dX0_sharedSteps_26 : decode cX0_sharedSteps 26 = .ok (.invokevirtual 129, 3) := by decide +kernel
theorem dX0_sharedSteps_29 : decode cX0_sharedSteps 29 = .ok (.ifCond .eq 39, 3) := by decide +kernel
theorem dX0_sharedSteps_32 : decode cX0_sharedSteps 32 = .ok (.iload_n 2, 1) := by decide +kernel
theorem dX0_sharedSteps_33 : decode cX0_sharedSteps 33 = .ok (.iconst (-1), 1) := by decide +kernel
theorem dX0_sharedSteps_34 : decode cX0_sharedSteps 34 = .ok (.if_icmp .ne 10, 3) := by decide +kernel
theorem dX0_sharedSteps_37 : decode cX0_sharedSteps 37 = .ok (.aload_n 0, 1) := by decide +kernel
theorem dX0_sharedSteps_38 : decode cX0_sharedSteps 38 = .ok (.getfield 47, 3) := by decide +kernel
theorem dX0_sharedSteps_41 : decode cX0_sharedSteps 41 = .ok (.goto 14, 3) := by decide +kernel
theorem dX0_sharedSteps_44 : decode cX0_sharedSteps 44 = .ok (.iload_n 3, 1) := by decide +kernel
theorem dX0_sharedSteps_45 : decode cX0_sharedSteps 45 = .ok (.aload_n 0, 1) := by decide +kernel
theorem dX0_sharedSteps_46 : decode cX0_sharedSteps 46 = .ok (.iload_n 2, 1) := by decide +kernel
theorem dX0_sharedSteps_47 : decode cX0_sharedSteps 47 = .ok (.iload 4, 2) := by decide +kernel
theorem dX0_sharedSteps_49 : decode cX0_sharedSteps 49 = .ok (.invokevirtual 132, 3) := by decide +kernel
theorem dX0_sharedSteps_52 : decode cX0_sharedSteps 52 = .ok (.invokestatic 105, 3) := by decide +kernel
theorem dX0_sharedSteps_55 : decode cX0_sharedSteps 55 = .ok (.istore_n 3, 1) := by decide +kernel
theorem dX0_sharedSteps_56 : decode cX0_sharedSteps 56 = .ok (.iload_n 2, 1) := by decide +kernel
theorem dX0_sharedSteps_57 : decode cX0_sharedSteps 57 = .ok (.iconst (-1), 1) := by decide +kernel
theorem dX0_sharedSteps_58 : decode cX0_sharedSteps 58 = .ok (.if_icmp .ne 8, 3) := by decide +kernel
theorem dX0_sharedSteps_61 : decode cX0_sharedSteps 61 = .ok (.iload 4, 2) := by decide +kernel
theorem dX0_sharedSteps_63 : decode cX0_sharedSteps 63 = .ok (.goto 4, 3) := by decide +kernel
theorem dX0_sharedSteps_66 : decode cX0_sharedSteps 66 = .ok (.iload_n 2, 1) := by decide +kernel
theorem dX0_sharedSteps_67 : decode cX0_sharedSteps 67 = .ok (.istore_n 2, 1) := by decide +kernel
theorem dX0_sharedSteps_68 : decode cX0_sharedSteps 68 = .ok (.iinc 4 1, 3) := by decide +kernel
theorem dX0_sharedSteps_71 : decode cX0_sharedSteps 71 = .ok (.goto (-64), 3) := by decide +kernel
theorem dX0_sharedSteps_74 : decode cX0_sharedSteps 74 = .ok (.iload_n 3, 1) := by decide +kernel
theorem dX0_sharedSteps_75 : decode cX0_sharedSteps 75 = .ok (.ireturn, 1) := by decide +kernel
set_option maxRecDepth 20000 in
theorem ggX0_meetingLevel_X0_cell : GoodIn wsX0_meetingLevel wsX0_cell := goodIn_r _ [6] (by decide +kernel) (by decide +kernel)
set_option maxRecDepth 20000 in
theorem gX0_meetingLevel_X0_cell : GoodIn wsX0_meetingLevel (va_wsS RX0 50 yX0_cell wsX0_cell) := goodIn_app (goodIn_of _ (by decide +kernel)) ggX0_meetingLevel_X0_cell
theorem dX0_meetingLevel_0 : decode cX0_meetingLevel 0 = .ok (.iload_n 1, 1) := by decide +kernel
theorem dX0_meetingLevel_1 : decode cX0_meetingLevel 1 = .ok (.istore_n 3, 1) := by decide +kernel
theorem dX0_meetingLevel_2 : decode cX0_meetingLevel 2 = .ok (.iload_n 2, 1) := by decide +kernel
theorem dX0_meetingLevel_3 : decode cX0_meetingLevel 3 = .ok (.istore 4, 2) := by decide +kernel
theorem dX0_meetingLevel_5 : decode cX0_meetingLevel 5 = .ok (.aload_n 0, 1) := by decide +kernel
theorem dX0_meetingLevel_6 : decode cX0_meetingLevel 6 = .ok (.getfield 47, 3) := by decide +kernel
theorem dX0_meetingLevel_9 : decode cX0_meetingLevel 9 = .ok (.istore 5, 2) := by decide +kernel
theorem dX0_meetingLevel_11 : decode cX0_meetingLevel 11 = .ok (.iload 5, 2) := by decide +kernel
theorem dX0_meetingLevel_13 : decode cX0_meetingLevel 13 = .ok (.ifCond .le 44, 3) := by decide +kernel
theorem dX0_meetingLevel_16 : decode cX0_meetingLevel 16 = .ok (.iload_n 3, 1) := by decide +kernel
theorem dX0_meetingLevel_17 : decode cX0_meetingLevel 17 = .ok (.iload 4, 2) := by decide +kernel
theorem dX0_meetingLevel_19 : decode cX0_meetingLevel 19 = .ok (.if_icmp .ne 6, 3) := by decide +kernel
theorem dX0_meetingLevel_22 : decode cX0_meetingLevel 22 = .ok (.iload 5, 2) := by decide +kernel
theorem dX0_meetingLevel_24 : decode cX0_meetingLevel 24 = .ok (.ireturn, 1) := by decide +kernel
theorem dX0_meetingLevel_25 : decode cX0_meetingLevel 25 = .ok (.aload_n 0, 1) := by decide +kernel
end
section
theorem dX0_meetingLevel_26 : decode cX0_meetingLevel 26 = .ok (.getfield 21, 3) := by decide +kernel
theorem dX0_meetingLevel_29 : decode cX0_meetingLevel 29 = .ok (.iload 5, 2) := by decide +kernel
theorem dX0_meetingLevel_31 : decode cX0_meetingLevel 31 = .ok (.iload_n 3, 1) := by decide +kernel
theorem dX0_meetingLevel_32 : decode cX0_meetingLevel 32 = .ok (.invokestatic 50, 3) := by decide +kernel
theorem dX0_meetingLevel_35 : decode cX0_meetingLevel 35 = .ok (.iaload, 1) := by decide +kernel
theorem dX0_meetingLevel_36 : decode cX0_meetingLevel 36 = .ok (.istore_n 3, 1) := by decide +kernel
theorem dX0_meetingLevel_37 : decode cX0_meetingLevel 37 = .ok (.aload_n 0, 1) := by decide +kernel
theorem dX0_meetingLevel_38 : decode cX0_meetingLevel 38 = .ok (.getfield 21, 3) := by decide +kernel
theorem dX0_meetingLevel_41 : decode cX0_meetingLevel 41 = .ok (.iload 5, 2) := by decide +kernel
theorem dX0_meetingLevel_43 : decode cX0_meetingLevel 43 = .ok (.iload 4, 2) := by decide +kernel
theorem dX0_meetingLevel_45 : decode cX0_meetingLevel 45 = .ok (.invokestatic 50, 3) := by decide +kernel
theorem dX0_meetingLevel_48 : decode cX0_meetingLevel 48 = .ok (.iaload, 1) := by decide +kernel
theorem dX0_meetingLevel_49 : decode cX0_meetingLevel 49 = .ok (.istore 4, 2) := by decide +kernel
theorem dX0_meetingLevel_51 : decode cX0_meetingLevel 51 = .ok (.iinc 5 (-1), 3) := by decide +kernel
theorem dX0_meetingLevel_54 : decode cX0_meetingLevel 54 = .ok (.goto (-43), 3) := by decide +kernel
theorem dX0_meetingLevel_57 : decode cX0_meetingLevel 57 = .ok (.iconst 0, 1) := by decide +kernel
theorem dX0_meetingLevel_58 : decode cX0_meetingLevel 58 = .ok (.ireturn, 1) := by decide +kernel
theorem dX1_init_0 : decode cX1_init 0 = .ok (.aload_n 0, 1) := by decide +kernel
theorem dX1_init_1 : decode cX1_init 1 = .ok (.invokespecial 3, 3) := by decide +kernel
theorem dX1_init_4 : decode cX1_init 4 = .ok (.aload_n 0, 1) := by decide +kernel
theorem dX1_init_5 : decode cX1_init 5 = .ok (.bipush 40, 2) := by decide +kernel
theorem dX1_init_7 : decode cX1_init 7 = .ok (.newarray .int, 2) := by decide +kernel
theorem dX1_init_9 : decode cX1_init 9 = .ok (.putfield 11, 3) := by decide +kernel
theorem dX1_init_12 : decode cX1_init 12 = .ok (.aload_n 0, 1) := by decide +kernel
theorem dX1_init_13 : decode cX1_init 13 = .ok (.bipush 40, 2) := by decide +kernel
theorem dX1_init_15 : decode cX1_init 15 = .ok (.newarray .int, 2) := by decide +kernel
theorem dX1_init_17 : decode cX1_init 17 = .ok (.putfield 15, 3) := by decide +kernel
theorem dX1_init_20 : decode cX1_init 20 = .ok (.aload_n 0, 1) := by decide +kernel
theorem dX1_init_21 : decode cX1_init 21 = .ok (.bipush 40, 2) := by decide +kernel
theorem dX1_init_23 : decode cX1_init 23 = .ok (.newarray .int, 2) := by decide +kernel
theorem dX1_init_25 : decode cX1_init 25 = .ok (.putfield 18, 3) := by decide +kernel
theorem dX1_init_28 : decode cX1_init 28 = .ok (.aload_n 0, 1) := by decide +kernel
theorem dX1_init_29 : decode cX1_init 29 = .ok (.bipush 40, 2) := by decide +kernel
theorem dX1_init_31 : decode cX1_init 31 = .ok (.newarray .int, 2) := by decide +kernel
theorem dX1_init_33 : decode cX1_init 33 = .ok (.putfield 21, 3) := by decide +kernel
theorem dX1_init_36 : decode cX1_init 36 = .ok (.aload_n 0, 1) := by decide +kernel
theorem dX1_init_37 : decode cX1_init 37 = .ok (.bipush 40, 2) := by decide +kernel
theorem dX1_init_39 : decode cX1_init 39 = .ok (.newarray .int, 2) := by decide +kernel
theorem dX1_init_41 : decode cX1_init 41 = .ok (.putfield 24, 3) := by decide +kernel
theorem dX1_init_44 : decode cX1_init 44 = .ok (.aload_n 0, 1) := by decide +kernel
theorem dX1_init_45 : decode cX1_init 45 = .ok (.bipush 10, 2) := by decide +kernel
theorem dX1_init_47 : decode cX1_init 47 = .ok (.newarray .int, 2) := by decide +kernel
theorem dX1_init_49 : decode cX1_init 49 = .ok (.putfield 27, 3) := by decide +kernel
theorem dX1_init_52 : decode cX1_init 52 = .ok (.aload_n 0, 1) := by decide +kernel
theorem dX1_init_53 : decode cX1_init 53 = .ok (.bipush 10, 2) := by decide +kernel
theorem dX1_init_55 : decode cX1_init 55 = .ok (.newarray .int, 2) := by decide +kernel
theorem dX1_init_57 : decode cX1_init 57 = .ok (.putfield 30, 3) := by decide +kernel
theorem dX1_init_60 : decode cX1_init 60 = .ok (.aload_n 0, 1) := by decide +kernel
theorem dX1_init_61 : decode cX1_init 61 = .ok (.bipush 10, 2) := by decide +kernel
theorem dX1_init_63 : decode cX1_init 63 = .ok (.newarray .int, 2) := by decide +kernel
theorem dX1_init_65 : decode cX1_init 65 = .ok (.putfield 33, 3) := by decide +kernel
theorem dX1_init_68 : decode cX1_init 68 = .ok (.aload_n 0, 1) := by decide +kernel
theorem dX1_init_69 : decode cX1_init 69 = .ok (.bipush 20, 2) := by decide +kernel
theorem dX1_init_71 : decode cX1_init 71 = .ok (.newarray .boolean, 2) := by decide +kernel
theorem dX1_init_73 : decode cX1_init 73 = .ok (.putfield 38, 3) := by decide +kernel
theorem dX1_init_76 : decode cX1_init 76 = .ok (.return_, 1) := by decide +kernel
theorem dX1_empty_0 : decode cX1_empty 0 = .ok (.aload_n 0, 1) := by decide +kernel
theorem dX1_empty_1 : decode cX1_empty 1 = .ok (.iconst 0, 1) := by decide +kernel
theorem dX1_empty_2 : decode cX1_empty 2 = .ok (.putfield 42, 3) := by decide +kernel
theorem dX1_empty_5 : decode cX1_empty 5 = .ok (.aload_n 0, 1) := by decide +kernel
theorem dX1_empty_6 : decode cX1_empty 6 = .ok (.iconst 0, 1) := by decide +kernel
theorem dX1_empty_7 : decode cX1_empty 7 = .ok (.putfield 46, 3) := by decide +kernel
theorem dX1_empty_10 : decode cX1_empty 10 = .ok (.return_, 1) := by decide +kernel
theorem dX1_addGo_0 : decode cX1_addGo 0 = .ok (.aload_n 0, 1) := by decide +kernel
theorem dX1_addGo_1 : decode cX1_addGo 1 = .ok (.getfield 42, 3) := by decide +kernel
theorem dX1_addGo_4 : decode cX1_addGo 4 = .ok (.ifCond .lt 12, 3) := by decide +kernel
theorem dX1_addGo_7 : decode cX1_addGo 7 = .ok (.aload_n 0, 1) := by decide +kernel
theorem dX1_addGo_8 : decode cX1_addGo 8 = .ok (.getfield 42, 3) := by decide +kernel
theorem dX1_addGo_11 : decode cX1_addGo 11 = .ok (.bipush 40, 2) := by decide +kernel
theorem dX1_addGo_13 : decode cX1_addGo 13 = .ok (.if_icmp .lt 4, 3) := by decide +kernel
theorem dX1_addGo_16 : decode cX1_addGo 16 = .ok (.return_, 1) := by decide +kernel
theorem dX1_addGo_17 : decode cX1_addGo 17 = .ok (.aload_n 0, 1) := by decide +kernel
theorem dX1_addGo_18 : decode cX1_addGo 18 = .ok (.getfield 11, 3) := by decide +kernel
theorem dX1_addGo_21 : decode cX1_addGo 21 = .ok (.aload_n 0, 1) := by decide +kernel
theorem dX1_addGo_22 : decode cX1_addGo 22 = .ok (.getfield 42, 3) := by decide +kernel
theorem dX1_addGo_25 : decode cX1_addGo 25 = .ok (.iload_n 1, 1) := by decide +kernel
theorem dX1_addGo_26 : decode cX1_addGo 26 = .ok (.iastore, 1) := by decide +kernel
theorem dX1_addGo_27 : decode cX1_addGo 27 = .ok (.aload_n 0, 1) := by decide +kernel
theorem dX1_addGo_28 : decode cX1_addGo 28 = .ok (.getfield 15, 3) := by decide +kernel
theorem dX1_addGo_31 : decode cX1_addGo 31 = .ok (.aload_n 0, 1) := by decide +kernel
theorem dX1_addGo_32 : decode cX1_addGo 32 = .ok (.getfield 42, 3) := by decide +kernel
theorem dX1_addGo_35 : decode cX1_addGo 35 = .ok (.iload_n 2, 1) := by decide +kernel
theorem dX1_addGo_36 : decode cX1_addGo 36 = .ok (.iastore, 1) := by decide +kernel
theorem dX1_addGo_37 : decode cX1_addGo 37 = .ok (.aload_n 0, 1) := by decide +kernel
theorem dX1_addGo_38 : decode cX1_addGo 38 = .ok (.getfield 18, 3) := by decide +kernel
theorem dX1_addGo_41 : decode cX1_addGo 41 = .ok (.aload_n 0, 1) := by decide +kernel
theorem dX1_addGo_42 : decode cX1_addGo 42 = .ok (.getfield 42, 3) := by decide +kernel
theorem dX1_addGo_45 : decode cX1_addGo 45 = .ok (.iload_n 3, 1) := by decide +kernel
theorem dX1_addGo_46 : decode cX1_addGo 46 = .ok (.iastore, 1) := by decide +kernel
theorem dX1_addGo_47 : decode cX1_addGo 47 = .ok (.aload_n 0, 1) := by decide +kernel
theorem dX1_addGo_48 : decode cX1_addGo 48 = .ok (.getfield 21, 3) := by decide +kernel
theorem dX1_addGo_51 : decode cX1_addGo 51 = .ok (.aload_n 0, 1) := by decide +kernel
theorem dX1_addGo_52 : decode cX1_addGo 52 = .ok (.getfield 42, 3) := by decide +kernel
theorem dX1_addGo_55 : decode cX1_addGo 55 = .ok (.iload 4, 2) := by decide +kernel
theorem dX1_addGo_57 : decode cX1_addGo 57 = .ok (.iastore, 1) := by decide +kernel
theorem dX1_addGo_58 : decode cX1_addGo 58 = .ok (.aload_n 0, 1) := by decide +kernel
theorem dX1_addGo_59 : decode cX1_addGo 59 = .ok (.getfield 24, 3) := by decide +kernel
theorem dX1_addGo_62 : decode cX1_addGo 62 = .ok (.aload_n 0, 1) := by decide +kernel
theorem dX1_addGo_63 : decode cX1_addGo 63 = .ok (.getfield 42, 3) := by decide +kernel
theorem dX1_addGo_66 : decode cX1_addGo 66 = .ok (.iload 5, 2) := by decide +kernel
theorem dX1_addGo_68 : decode cX1_addGo 68 = .ok (.iastore, 1) := by decide +kernel
theorem dX1_addGo_69 : decode cX1_addGo 69 = .ok (.aload_n 0, 1) := by decide +kernel
theorem dX1_addGo_70 : decode cX1_addGo 70 = .ok (.dup, 1) := by decide +kernel
theorem dX1_addGo_71 : decode cX1_addGo 71 = .ok (.getfield 42, 3) := by decide +kernel
theorem dX1_addGo_74 : decode cX1_addGo 74 = .ok (.iconst 1, 1) := by decide +kernel
theorem dX1_addGo_75 : decode cX1_addGo 75 = .ok (.iadd, 1) := by decide +kernel
theorem dX1_addGo_76 : decode cX1_addGo 76 = .ok (.putfield 42, 3) := by decide +kernel
theorem dX1_addGo_79 : decode cX1_addGo 79 = .ok (.return_, 1) := by decide +kernel
theorem dX1_addEnd_0 : decode cX1_addEnd 0 = .ok (.aload_n 0, 1) := by decide +kernel
theorem dX1_addEnd_1 : decode cX1_addEnd 1 = .ok (.getfield 46, 3) := by decide +kernel
theorem dX1_addEnd_4 : decode cX1_addEnd 4 = .ok (.ifCond .lt 12, 3) := by decide +kernel
theorem dX1_addEnd_7 : decode cX1_addEnd 7 = .ok (.aload_n 0, 1) := by decide +kernel
theorem dX1_addEnd_8 : decode cX1_addEnd 8 = .ok (.getfield 46, 3) := by decide +kernel
theorem dX1_addEnd_11 : decode cX1_addEnd 11 = .ok (.bipush 10, 2) := by decide +kernel
theorem dX1_addEnd_13 : decode cX1_addEnd 13 = .ok (.if_icmp .lt 4, 3) := by decide +kernel
theorem dX1_addEnd_16 : decode cX1_addEnd 16 = .ok (.return_, 1) := by decide +kernel
theorem dX1_addEnd_17 : decode cX1_addEnd 17 = .ok (.aload_n 0, 1) := by decide +kernel
theorem dX1_addEnd_18 : decode cX1_addEnd 18 = .ok (.getfield 27, 3) := by decide +kernel
theorem dX1_addEnd_21 : decode cX1_addEnd 21 = .ok (.aload_n 0, 1) := by decide +kernel
theorem dX1_addEnd_22 : decode cX1_addEnd 22 = .ok (.getfield 46, 3) := by decide +kernel
theorem dX1_addEnd_25 : decode cX1_addEnd 25 = .ok (.iload_n 1, 1) := by decide +kernel
theorem dX1_addEnd_26 : decode cX1_addEnd 26 = .ok (.iastore, 1) := by decide +kernel
theorem dX1_addEnd_27 : decode cX1_addEnd 27 = .ok (.aload_n 0, 1) := by decide +kernel
theorem dX1_addEnd_28 : decode cX1_addEnd 28 = .ok (.getfield 30, 3) := by decide +kernel
theorem dX1_addEnd_31 : decode cX1_addEnd 31 = .ok (.aload_n 0, 1) := by decide +kernel
theorem dX1_addEnd_32 : decode cX1_addEnd 32 = .ok (.getfield 46, 3) := by decide +kernel
theorem dX1_addEnd_35 : decode cX1_addEnd 35 = .ok (.iload_n 2, 1) := by decide +kernel
theorem dX1_addEnd_36 : decode cX1_addEnd 36 = .ok (.iastore, 1) := by decide +kernel
theorem dX1_addEnd_37 : decode cX1_addEnd 37 = .ok (.aload_n 0, 1) := by decide +kernel
theorem dX1_addEnd_38 : decode cX1_addEnd 38 = .ok (.getfield 33, 3) := by decide +kernel
theorem dX1_addEnd_41 : decode cX1_addEnd 41 = .ok (.aload_n 0, 1) := by decide +kernel
theorem dX1_addEnd_42 : decode cX1_addEnd 42 = .ok (.getfield 46, 3) := by decide +kernel
theorem dX1_addEnd_45 : decode cX1_addEnd 45 = .ok (.iload_n 3, 1) := by decide +kernel
theorem dX1_addEnd_46 : decode cX1_addEnd 46 = .ok (.iastore, 1) := by decide +kernel
theorem dX1_addEnd_47 : decode cX1_addEnd 47 = .ok (.aload_n 0, 1) := by decide +kernel
theorem dX1_addEnd_48 : decode cX1_addEnd 48 = .ok (.dup, 1) := by decide +kernel
theorem dX1_addEnd_49 : decode cX1_addEnd 49 = .ok (.getfield 46, 3) := by decide +kernel
theorem dX1_addEnd_52 : decode cX1_addEnd 52 = .ok (.iconst 1, 1) := by decide +kernel
theorem dX1_addEnd_53 : decode cX1_addEnd 53 = .ok (.iadd, 1) := by decide +kernel
theorem dX1_addEnd_54 : decode cX1_addEnd 54 = .ok (.putfield 46, 3) := by decide +kernel
theorem dX1_addEnd_57 : decode cX1_addEnd 57 = .ok (.return_, 1) := by decide +kernel
theorem dX1_hasGo_0 : decode cX1_hasGo 0 = .ok (.iload_n 1, 1) := by decide +kernel
theorem dX1_hasGo_1 : decode cX1_hasGo 1 = .ok (.ifCond .lt 21, 3) := by decide +kernel
theorem dX1_hasGo_4 : decode cX1_hasGo 4 = .ok (.iload_n 1, 1) := by decide +kernel
theorem dX1_hasGo_5 : decode cX1_hasGo 5 = .ok (.aload_n 0, 1) := by decide +kernel
theorem dX1_hasGo_6 : decode cX1_hasGo 6 = .ok (.getfield 42, 3) := by decide +kernel
theorem dX1_hasGo_9 : decode cX1_hasGo 9 = .ok (.if_icmp .ge 13, 3) := by decide +kernel
theorem dX1_hasGo_12 : decode cX1_hasGo 12 = .ok (.iload_n 1, 1) := by decide +kernel
theorem dX1_hasGo_13 : decode cX1_hasGo 13 = .ok (.bipush 40, 2) := by decide +kernel
theorem dX1_hasGo_15 : decode cX1_hasGo 15 = .ok (.if_icmp .ge 7, 3) := by decide +kernel
theorem dX1_hasGo_18 : decode cX1_hasGo 18 = .ok (.iconst 1, 1) := by decide +kernel
theorem dX1_hasGo_19 : decode cX1_hasGo 19 = .ok (.goto 4, 3) := by decide +kernel
theorem dX1_hasGo_22 : decode cX1_hasGo 22 = .ok (.iconst 0, 1) := by decide +kernel
theorem dX1_hasGo_23 : decode cX1_hasGo 23 = .ok (.ireturn, 1) := by decide +kernel
theorem dX1_hasEnd_0 : decode cX1_hasEnd 0 = .ok (.iload_n 1, 1) := by decide +kernel
theorem dX1_hasEnd_1 : decode cX1_hasEnd 1 = .ok (.ifCond .lt 21, 3) := by decide +kernel
theorem dX1_hasEnd_4 : decode cX1_hasEnd 4 = .ok (.iload_n 1, 1) := by decide +kernel
theorem dX1_hasEnd_5 : decode cX1_hasEnd 5 = .ok (.aload_n 0, 1) := by decide +kernel
theorem dX1_hasEnd_6 : decode cX1_hasEnd 6 = .ok (.getfield 46, 3) := by decide +kernel
theorem dX1_hasEnd_9 : decode cX1_hasEnd 9 = .ok (.if_icmp .ge 13, 3) := by decide +kernel
theorem dX1_hasEnd_12 : decode cX1_hasEnd 12 = .ok (.iload_n 1, 1) := by decide +kernel
theorem dX1_hasEnd_13 : decode cX1_hasEnd 13 = .ok (.bipush 10, 2) := by decide +kernel
theorem dX1_hasEnd_15 : decode cX1_hasEnd 15 = .ok (.if_icmp .ge 7, 3) := by decide +kernel
theorem dX1_hasEnd_18 : decode cX1_hasEnd 18 = .ok (.iconst 1, 1) := by decide +kernel
theorem dX1_hasEnd_19 : decode cX1_hasEnd 19 = .ok (.goto 4, 3) := by decide +kernel
theorem dX1_hasEnd_22 : decode cX1_hasEnd 22 = .ok (.iconst 0, 1) := by decide +kernel
theorem dX1_hasEnd_23 : decode cX1_hasEnd 23 = .ok (.ireturn, 1) := by decide +kernel
set_option maxRecDepth 20000 in
theorem ggX1_markOfGo_X1_hasGo : GoodIn wsX1_markOfGo wsX1_hasGo := goodIn_r _ [6, 7, 8, 9, 10, 11, 12, 13, 14, 15, 16, 17, 18] (by decide +kernel) (by decide +kernel)
set_option maxRecDepth 20000 in
theorem gX1_markOfGo_X1_hasGo : GoodIn wsX1_markOfGo (wsV RX1 49 RX1 yX1_hasGo wsX1_hasGo) := goodIn_app (goodIn_of _ (by decide +kernel)) ggX1_markOfGo_X1_hasGo
theorem dX1_markOfGo_0 : decode cX1_markOfGo 0 = .ok (.aload_n 0, 1) := by decide +kernel
theorem dX1_markOfGo_1 : decode cX1_markOfGo 1 = .ok (.iload_n 1, 1) := by decide +kernel
theorem dX1_markOfGo_2 : decode cX1_markOfGo 2 = .ok (.invokevirtual 49, 3) := by decide +kernel
theorem dX1_markOfGo_5 : decode cX1_markOfGo 5 = .ok (.ifCond .eq 12, 3) := by decide +kernel
theorem dX1_markOfGo_8 : decode cX1_markOfGo 8 = .ok (.aload_n 0, 1) := by decide +kernel
theorem dX1_markOfGo_9 : decode cX1_markOfGo 9 = .ok (.getfield 24, 3) := by decide +kernel
theorem dX1_markOfGo_12 : decode cX1_markOfGo 12 = .ok (.iload_n 1, 1) := by decide +kernel
theorem dX1_markOfGo_13 : decode cX1_markOfGo 13 = .ok (.iaload, 1) := by decide +kernel
theorem dX1_markOfGo_14 : decode cX1_markOfGo 14 = .ok (.goto 4, 3) := by decide +kernel
theorem dX1_markOfGo_17 : decode cX1_markOfGo 17 = .ok (.iconst 0, 1) := by decide +kernel
theorem dX1_markOfGo_18 : decode cX1_markOfGo 18 = .ok (.ireturn, 1) := by decide +kernel
set_option maxRecDepth 20000 in
theorem ggX1_markOfEnd_X1_hasEnd : GoodIn wsX1_markOfEnd wsX1_hasEnd := goodIn_r _ [6, 7, 8, 9, 10, 11, 12, 13, 14, 15, 16, 17, 18] (by decide +kernel) (by decide +kernel)
set_option maxRecDepth 20000 in
theorem gX1_markOfEnd_X1_hasEnd : GoodIn wsX1_markOfEnd (wsV RX1 53 RX1 yX1_hasEnd wsX1_hasEnd) := goodIn_app (goodIn_of _ (by decide +kernel)) ggX1_markOfEnd_X1_hasEnd
theorem dX1_markOfEnd_0 : decode cX1_markOfEnd 0 = .ok (.aload_n 0, 1) := by decide +kernel
theorem dX1_markOfEnd_1 : decode cX1_markOfEnd 1 = .ok (.iload_n 1, 1) := by decide +kernel
theorem dX1_markOfEnd_2 : decode cX1_markOfEnd 2 = .ok (.invokevirtual 53, 3) := by decide +kernel
theorem dX1_markOfEnd_5 : decode cX1_markOfEnd 5 = .ok (.ifCond .eq 12, 3) := by decide +kernel
theorem dX1_markOfEnd_8 : decode cX1_markOfEnd 8 = .ok (.aload_n 0, 1) := by decide +kernel
theorem dX1_markOfEnd_9 : decode cX1_markOfEnd 9 = .ok (.getfield 33, 3) := by decide +kernel
theorem dX1_markOfEnd_12 : decode cX1_markOfEnd 12 = .ok (.iload_n 1, 1) := by decide +kernel
theorem dX1_markOfEnd_13 : decode cX1_markOfEnd 13 = .ok (.iaload, 1) := by decide +kernel
theorem dX1_markOfEnd_14 : decode cX1_markOfEnd 14 = .ok (.goto 4, 3) := by decide +kernel
theorem dX1_markOfEnd_17 : decode cX1_markOfEnd 17 = .ok (.iconst 0, 1) := by decide +kernel
theorem dX1_markOfEnd_18 : decode cX1_markOfEnd 18 = .ok (.ireturn, 1) := by decide +kernel
set_option maxRecDepth 20000 in
theorem ggX1_costOfEnd_X1_hasEnd : GoodIn wsX1_costOfEnd wsX1_hasEnd := goodIn_r _ [6, 7, 8, 9, 10, 11, 12, 13, 14, 15, 16, 17, 18] (by decide +kernel) (by decide +kernel)
set_option maxRecDepth 20000 in
theorem gX1_costOfEnd_X1_hasEnd : GoodIn wsX1_costOfEnd (wsV RX1 53 RX1 yX1_hasEnd wsX1_hasEnd) := goodIn_app (goodIn_of _ (by decide +kernel)) ggX1_costOfEnd_X1_hasEnd
theorem dX1_costOfEnd_0 : decode cX1_costOfEnd 0 = .ok (.aload_n 0, 1) := by decide +kernel
theorem dX1_costOfEnd_1 : decode cX1_costOfEnd 1 = .ok (.iload_n 1, 1) := by decide +kernel
theorem dX1_costOfEnd_2 : decode cX1_costOfEnd 2 = .ok (.invokevirtual 53, 3) := by decide +kernel
theorem dX1_costOfEnd_5 : decode cX1_costOfEnd 5 = .ok (.ifCond .eq 12, 3) := by decide +kernel
theorem dX1_costOfEnd_8 : decode cX1_costOfEnd 8 = .ok (.aload_n 0, 1) := by decide +kernel
theorem dX1_costOfEnd_9 : decode cX1_costOfEnd 9 = .ok (.getfield 30, 3) := by decide +kernel
theorem dX1_costOfEnd_12 : decode cX1_costOfEnd 12 = .ok (.iload_n 1, 1) := by decide +kernel
theorem dX1_costOfEnd_13 : decode cX1_costOfEnd 13 = .ok (.iaload, 1) := by decide +kernel
theorem dX1_costOfEnd_14 : decode cX1_costOfEnd 14 = .ok (.goto 4, 3) := by decide +kernel
theorem dX1_costOfEnd_17 : decode cX1_costOfEnd 17 = .ok (.iconst 0, 1) := by decide +kernel
theorem dX1_costOfEnd_18 : decode cX1_costOfEnd 18 = .ok (.ireturn, 1) := by decide +kernel
set_option maxRecDepth 20000 in
theorem ggX1_canEnd_X1_hasEnd : GoodIn wsX1_canEnd wsX1_hasEnd := goodIn_r _ [7, 8, 9, 10, 11, 12, 13, 14, 15, 16, 17, 18, 19] (by decide +kernel) (by decide +kernel)
set_option maxRecDepth 20000 in
theorem gX1_canEnd_X1_hasEnd : GoodIn wsX1_canEnd (wsV RX1 53 RX1 yX1_hasEnd wsX1_hasEnd) := goodIn_app (goodIn_of _ (by decide +kernel)) ggX1_canEnd_X1_hasEnd
theorem dX1_canEnd_0 : decode cX1_canEnd 0 = .ok (.aload_n 0, 1) := by decide +kernel
theorem dX1_canEnd_1 : decode cX1_canEnd 1 = .ok (.iload_n 1, 1) := by decide +kernel
theorem dX1_canEnd_2 : decode cX1_canEnd 2 = .ok (.invokevirtual 53, 3) := by decide +kernel
theorem dX1_canEnd_5 : decode cX1_canEnd 5 = .ok (.ifCond .eq 32, 3) := by decide +kernel
theorem dX1_canEnd_8 : decode cX1_canEnd 8 = .ok (.aload_n 0, 1) := by decide +kernel
theorem dX1_canEnd_9 : decode cX1_canEnd 9 = .ok (.getfield 27, 3) := by decide +kernel
theorem dX1_canEnd_12 : decode cX1_canEnd 12 = .ok (.iload_n 1, 1) := by decide +kernel
theorem dX1_canEnd_13 : decode cX1_canEnd 13 = .ok (.iaload, 1) := by decide +kernel
theorem dX1_canEnd_14 : decode cX1_canEnd 14 = .ok (.iload_n 2, 1) := by decide +kernel
theorem dX1_canEnd_15 : decode cX1_canEnd 15 = .ok (.if_icmp .ne 22, 3) := by decide +kernel
theorem dX1_canEnd_18 : decode cX1_canEnd 18 = .ok (.iload_n 3, 1) := by decide +kernel
theorem dX1_canEnd_19 : decode cX1_canEnd 19 = .ok (.iconst (-1), 1) := by decide +kernel
theorem dX1_canEnd_20 : decode cX1_canEnd 20 = .ok (.if_icmp .eq 13, 3) := by decide +kernel
theorem dX1_canEnd_23 : decode cX1_canEnd 23 = .ok (.aload_n 0, 1) := by decide +kernel
theorem dX1_canEnd_24 : decode cX1_canEnd 24 = .ok (.getfield 33, 3) := by decide +kernel
theorem dX1_canEnd_27 : decode cX1_canEnd 27 = .ok (.iload_n 1, 1) := by decide +kernel
theorem dX1_canEnd_28 : decode cX1_canEnd 28 = .ok (.iaload, 1) := by decide +kernel
theorem dX1_canEnd_29 : decode cX1_canEnd 29 = .ok (.iload_n 3, 1) := by decide +kernel
theorem dX1_canEnd_30 : decode cX1_canEnd 30 = .ok (.if_icmp .ne 7, 3) := by decide +kernel
theorem dX1_canEnd_33 : decode cX1_canEnd 33 = .ok (.iconst 1, 1) := by decide +kernel
theorem dX1_canEnd_34 : decode cX1_canEnd 34 = .ok (.goto 4, 3) := by decide +kernel
theorem dX1_canEnd_37 : decode cX1_canEnd 37 = .ok (.iconst 0, 1) := by decide +kernel
theorem dX1_canEnd_38 : decode cX1_canEnd 38 = .ok (.ireturn, 1) := by decide +kernel
set_option maxRecDepth 20000 in
theorem ggX1_canGo_X1_hasGo : GoodIn wsX1_canGo wsX1_hasGo := goodIn_r _ [8, 9, 10, 11, 12, 13, 14, 15, 16, 17, 18, 19, 20] (by decide +kernel) (by decide +kernel)
set_option maxRecDepth 20000 in
theorem gX1_canGo_X1_hasGo : GoodIn wsX1_canGo (wsV RX1 49 RX1 yX1_hasGo wsX1_hasGo) := goodIn_app (goodIn_of _ (by decide +kernel)) ggX1_canGo_X1_hasGo
theorem dX1_canGo_0 : decode cX1_canGo 0 = .ok (.aload_n 0, 1) := by decide +kernel
theorem dX1_canGo_1 : decode cX1_canGo 1 = .ok (.iload_n 1, 1) := by decide +kernel
theorem dX1_canGo_2 : decode cX1_canGo 2 = .ok (.invokevirtual 49, 3) := by decide +kernel
theorem dX1_canGo_5 : decode cX1_canGo 5 = .ok (.ifCond .eq 48, 3) := by decide +kernel
theorem dX1_canGo_8 : decode cX1_canGo 8 = .ok (.aload_n 0, 1) := by decide +kernel
theorem dX1_canGo_9 : decode cX1_canGo 9 = .ok (.getfield 11, 3) := by decide +kernel
theorem dX1_canGo_12 : decode cX1_canGo 12 = .ok (.iload_n 1, 1) := by decide +kernel
theorem dX1_canGo_13 : decode cX1_canGo 13 = .ok (.iaload, 1) := by decide +kernel
theorem dX1_canGo_14 : decode cX1_canGo 14 = .ok (.iload_n 2, 1) := by decide +kernel
theorem dX1_canGo_15 : decode cX1_canGo 15 = .ok (.if_icmp .ne 38, 3) := by decide +kernel
theorem dX1_canGo_18 : decode cX1_canGo 18 = .ok (.iload_n 3, 1) := by decide +kernel
theorem dX1_canGo_19 : decode cX1_canGo 19 = .ok (.aload_n 0, 1) := by decide +kernel
theorem dX1_canGo_20 : decode cX1_canGo 20 = .ok (.getfield 15, 3) := by decide +kernel
theorem dX1_canGo_23 : decode cX1_canGo 23 = .ok (.iload_n 1, 1) := by decide +kernel
theorem dX1_canGo_24 : decode cX1_canGo 24 = .ok (.iaload, 1) := by decide +kernel
theorem dX1_canGo_25 : decode cX1_canGo 25 = .ok (.ishr, 1) := by decide +kernel
theorem dX1_canGo_26 : decode cX1_canGo 26 = .ok (.iconst 1, 1) := by decide +kernel
theorem dX1_canGo_27 : decode cX1_canGo 27 = .ok (.iand, 1) := by decide +kernel
theorem dX1_canGo_28 : decode cX1_canGo 28 = .ok (.iconst 1, 1) := by decide +kernel
theorem dX1_canGo_29 : decode cX1_canGo 29 = .ok (.if_icmp .ne 24, 3) := by decide +kernel
theorem dX1_canGo_32 : decode cX1_canGo 32 = .ok (.iload 4, 2) := by decide +kernel
theorem dX1_canGo_34 : decode cX1_canGo 34 = .ok (.iconst (-1), 1) := by decide +kernel
theorem dX1_canGo_35 : decode cX1_canGo 35 = .ok (.if_icmp .eq 14, 3) := by decide +kernel
theorem dX1_canGo_38 : decode cX1_canGo 38 = .ok (.aload_n 0, 1) := by decide +kernel
theorem dX1_canGo_39 : decode cX1_canGo 39 = .ok (.getfield 24, 3) := by decide +kernel
theorem dX1_canGo_42 : decode cX1_canGo 42 = .ok (.iload_n 1, 1) := by decide +kernel
theorem dX1_canGo_43 : decode cX1_canGo 43 = .ok (.iaload, 1) := by decide +kernel
theorem dX1_canGo_44 : decode cX1_canGo 44 = .ok (.iload 4, 2) := by decide +kernel
theorem dX1_canGo_46 : decode cX1_canGo 46 = .ok (.if_icmp .ne 7, 3) := by decide +kernel
theorem dX1_canGo_49 : decode cX1_canGo 49 = .ok (.iconst 1, 1) := by decide +kernel
theorem dX1_canGo_50 : decode cX1_canGo 50 = .ok (.goto 4, 3) := by decide +kernel
theorem dX1_canGo_53 : decode cX1_canGo 53 = .ok (.iconst 0, 1) := by decide +kernel
theorem dX1_canGo_54 : decode cX1_canGo 54 = .ok (.ireturn, 1) := by decide +kernel
set_option maxRecDepth 20000 in
theorem ggX1_nodeBehind_X1_hasGo : GoodIn wsX1_nodeBehind wsX1_hasGo := goodIn_r _ [7, 8, 12, 13, 14, 15, 16, 17, 18, 19, 20, 21, 22] (by decide +kernel) (by decide +kernel)
set_option maxRecDepth 20000 in
theorem gX1_nodeBehind_X1_hasGo : GoodIn wsX1_nodeBehind (wsV RX1 49 RX1 yX1_hasGo wsX1_hasGo) := goodIn_app (goodIn_of _ (by decide +kernel)) ggX1_nodeBehind_X1_hasGo
set_option maxRecDepth 20000 in
theorem ggX1_nodeBehind_X4_nodeOf : GoodIn wsX1_nodeBehind wsX4_nodeOf := goodIn_r _ [11] (by decide +kernel) (by decide +kernel)
set_option maxRecDepth 20000 in
theorem gX1_nodeBehind_X4_nodeOf_n56 : GoodIn wsX1_nodeBehind (wsX4_nodeOf) := ggX1_nodeBehind_X4_nodeOf
theorem dX1_nodeBehind_0 : decode cX1_nodeBehind 0 = .ok (.aload_n 0, 1) := by decide +kernel
theorem dX1_nodeBehind_1 : decode cX1_nodeBehind 1 = .ok (.iload_n 1, 1) := by decide +kernel
theorem dX1_nodeBehind_2 : decode cX1_nodeBehind 2 = .ok (.invokevirtual 49, 3) := by decide +kernel
theorem dX1_nodeBehind_5 : decode cX1_nodeBehind 5 = .ok (.ifCond .ne 5, 3) := by decide +kernel
theorem dX1_nodeBehind_8 : decode cX1_nodeBehind 8 = .ok (.iconst (-1), 1) := by decide +kernel
theorem dX1_nodeBehind_9 : decode cX1_nodeBehind 9 = .ok (.ireturn, 1) := by decide +kernel
theorem dX1_nodeBehind_10 : decode cX1_nodeBehind 10 = .ok (.aload_n 0, 1) := by decide +kernel
theorem dX1_nodeBehind_11 : decode cX1_nodeBehind 11 = .ok (.getfield 24, 3) := by decide +kernel
theorem dX1_nodeBehind_14 : decode cX1_nodeBehind 14 = .ok (.iload_n 1, 1) := by decide +kernel
theorem dX1_nodeBehind_15 : decode cX1_nodeBehind 15 = .ok (.iaload, 1) := by decide +kernel
theorem dX1_nodeBehind_16 : decode cX1_nodeBehind 16 = .ok (.iconst 2, 1) := by decide +kernel
theorem dX1_nodeBehind_17 : decode cX1_nodeBehind 17 = .ok (.if_icmp .ne 22, 3) := by decide +kernel
theorem dX1_nodeBehind_20 : decode cX1_nodeBehind 20 = .ok (.iload_n 2, 1) := by decide +kernel
theorem dX1_nodeBehind_21 : decode cX1_nodeBehind 21 = .ok (.ifCond .ne 16, 3) := by decide +kernel
theorem dX1_nodeBehind_24 : decode cX1_nodeBehind 24 = .ok (.aload_n 0, 1) := by decide +kernel
theorem dX1_nodeBehind_25 : decode cX1_nodeBehind 25 = .ok (.getfield 18, 3) := by decide +kernel
theorem dX1_nodeBehind_28 : decode cX1_nodeBehind 28 = .ok (.iload_n 1, 1) := by decide +kernel
theorem dX1_nodeBehind_29 : decode cX1_nodeBehind 29 = .ok (.iaload, 1) := by decide +kernel
theorem dX1_nodeBehind_30 : decode cX1_nodeBehind 30 = .ok (.iconst 1, 1) := by decide +kernel
theorem dX1_nodeBehind_31 : decode cX1_nodeBehind 31 = .ok (.invokestatic 56, 3) := by decide +kernel
theorem dX1_nodeBehind_34 : decode cX1_nodeBehind 34 = .ok (.goto 4, 3) := by decide +kernel
theorem dX1_nodeBehind_37 : decode cX1_nodeBehind 37 = .ok (.iconst (-1), 1) := by decide +kernel
theorem dX1_nodeBehind_38 : decode cX1_nodeBehind 38 = .ok (.ireturn, 1) := by decide +kernel
theorem dX1_nodeBehind_39 : decode cX1_nodeBehind 39 = .ok (.aload_n 0, 1) := by decide +kernel
theorem dX1_nodeBehind_40 : decode cX1_nodeBehind 40 = .ok (.getfield 24, 3) := by decide +kernel
theorem dX1_nodeBehind_43 : decode cX1_nodeBehind 43 = .ok (.iload_n 1, 1) := by decide +kernel
theorem dX1_nodeBehind_44 : decode cX1_nodeBehind 44 = .ok (.iaload, 1) := by decide +kernel
theorem dX1_nodeBehind_45 : decode cX1_nodeBehind 45 = .ok (.iconst 3, 1) := by decide +kernel
theorem dX1_nodeBehind_46 : decode cX1_nodeBehind 46 = .ok (.if_icmp .ne 23, 3) := by decide +kernel
theorem dX1_nodeBehind_49 : decode cX1_nodeBehind 49 = .ok (.iload_n 2, 1) := by decide +kernel
theorem dX1_nodeBehind_50 : decode cX1_nodeBehind 50 = .ok (.iconst 1, 1) := by decide +kernel
theorem dX1_nodeBehind_51 : decode cX1_nodeBehind 51 = .ok (.if_icmp .ne 16, 3) := by decide +kernel
theorem dX1_nodeBehind_54 : decode cX1_nodeBehind 54 = .ok (.aload_n 0, 1) := by decide +kernel
theorem dX1_nodeBehind_55 : decode cX1_nodeBehind 55 = .ok (.getfield 18, 3) := by decide +kernel
theorem dX1_nodeBehind_58 : decode cX1_nodeBehind 58 = .ok (.iload_n 1, 1) := by decide +kernel
theorem dX1_nodeBehind_59 : decode cX1_nodeBehind 59 = .ok (.iaload, 1) := by decide +kernel
theorem dX1_nodeBehind_60 : decode cX1_nodeBehind 60 = .ok (.iconst 0, 1) := by decide +kernel
theorem dX1_nodeBehind_61 : decode cX1_nodeBehind 61 = .ok (.invokestatic 56, 3) := by decide +kernel
theorem dX1_nodeBehind_64 : decode cX1_nodeBehind 64 = .ok (.goto 4, 3) := by decide +kernel
theorem dX1_nodeBehind_67 : decode cX1_nodeBehind 67 = .ok (.iconst (-1), 1) := by decide +kernel
theorem dX1_nodeBehind_68 : decode cX1_nodeBehind 68 = .ok (.ireturn, 1) := by decide +kernel
theorem dX1_nodeBehind_69 : decode cX1_nodeBehind 69 = .ok (.aload_n 0, 1) := by decide +kernel
theorem dX1_nodeBehind_70 : decode cX1_nodeBehind 70 = .ok (.getfield 18, 3) := by decide +kernel
theorem dX1_nodeBehind_73 : decode cX1_nodeBehind 73 = .ok (.iload_n 1, 1) := by decide +kernel
theorem dX1_nodeBehind_74 : decode cX1_nodeBehind 74 = .ok (.iaload, 1) := by decide +kernel
theorem dX1_nodeBehind_75 : decode cX1_nodeBehind 75 = .ok (.iload_n 2, 1) := by decide +kernel
theorem dX1_nodeBehind_76 : decode cX1_nodeBehind 76 = .ok (.invokestatic 56, 3) := by decide +kernel
theorem dX1_nodeBehind_79 : decode cX1_nodeBehind 79 = .ok (.ireturn, 1) := by decide +kernel
theorem dX1_isHopeful_0 : decode cX1_isHopeful 0 = .ok (.iload_n 1, 1) := by decide +kernel
theorem dX1_isHopeful_1 : decode cX1_isHopeful 1 = .ok (.ifCond .lt 22, 3) := by decide +kernel
theorem dX1_isHopeful_4 : decode cX1_isHopeful 4 = .ok (.iload_n 1, 1) := by decide +kernel
theorem dX1_isHopeful_5 : decode cX1_isHopeful 5 = .ok (.bipush 20, 2) := by decide +kernel
theorem dX1_isHopeful_7 : decode cX1_isHopeful 7 = .ok (.if_icmp .ge 16, 3) := by decide +kernel
theorem dX1_isHopeful_10 : decode cX1_isHopeful 10 = .ok (.aload_n 0, 1) := by decide +kernel
theorem dX1_isHopeful_11 : decode cX1_isHopeful 11 = .ok (.getfield 38, 3) := by decide +kernel
theorem dX1_isHopeful_14 : decode cX1_isHopeful 14 = .ok (.iload_n 1, 1) := by decide +kernel
theorem dX1_isHopeful_15 : decode cX1_isHopeful 15 = .ok (.baload, 1) := by decide +kernel
theorem dX1_isHopeful_16 : decode cX1_isHopeful 16 = .ok (.ifCond .eq 7, 3) := by decide +kernel
theorem dX1_isHopeful_19 : decode cX1_isHopeful 19 = .ok (.iconst 1, 1) := by decide +kernel
theorem dX1_isHopeful_20 : decode cX1_isHopeful 20 = .ok (.goto 4, 3) := by decide +kernel
theorem dX1_isHopeful_23 : decode cX1_isHopeful 23 = .ok (.iconst 0, 1) := by decide +kernel
theorem dX1_isHopeful_24 : decode cX1_isHopeful 24 = .ok (.ireturn, 1) := by decide +kernel
set_option maxRecDepth 20000 in
theorem ggX1_findHopeful_X1_hasEnd : GoodIn wsX1_findHopeful wsX1_hasEnd := goodIn_r _ [9, 2, 36, 37, 38, 39, 40, 41, 42, 43, 44, 45, 46] (by decide +kernel) (by decide +kernel)
set_option maxRecDepth 20000 in
theorem gX1_findHopeful_X1_hasEnd : GoodIn wsX1_findHopeful (wsV RX1 53 RX1 yX1_hasEnd wsX1_hasEnd) := goodIn_app (goodIn_of _ (by decide +kernel)) ggX1_findHopeful_X1_hasEnd
set_option maxRecDepth 20000 in
theorem ggX1_findHopeful_X4_nodeOf : GoodIn wsX1_findHopeful wsX4_nodeOf := goodIn_r _ [12] (by decide +kernel) (by decide +kernel)
set_option maxRecDepth 20000 in
theorem gX1_findHopeful_X4_nodeOf_n56 : GoodIn wsX1_findHopeful (wsX4_nodeOf) := ggX1_findHopeful_X4_nodeOf
set_option maxRecDepth 20000 in
theorem ggX1_findHopeful_X1_setHopeful : GoodIn wsX1_findHopeful wsX1_setHopeful := goodIn_r _ [16, 1, 36, 37, 38, 39, 40, 41, 42, 43, 44, 45, 46] (by decide +kernel) (by decide +kernel)
set_option maxRecDepth 20000 in
theorem gX1_findHopeful_X1_setHopeful : GoodIn wsX1_findHopeful (wsV RX1 60 RX1 yX1_setHopeful wsX1_setHopeful) := goodIn_app (goodIn_of _ (by decide +kernel)) ggX1_findHopeful_X1_setHopeful
set_option maxRecDepth 20000 in
theorem ggX1_findHopeful_X1_passHopeBack : GoodIn wsX1_findHopeful wsX1_passHopeBack := goodIn_r _ [20, 21, 22, 23, 24, 8, 25, 4, 26, 27, 28, 29, 30, 31, 10, 11, 12, 32, 33, 34, 35, 1, 13, 14, 15, 16, 36, 37, 38, 39, 40, 41, 42, 43, 44, 45, 46] (by decide +kernel) (by decide +kernel)
set_option maxRecDepth 20000 in
theorem gX1_findHopeful_X1_passHopeBack : GoodIn wsX1_findHopeful (wsV RX1 64 RX1 yX1_passHopeBack wsX1_passHopeBack) := goodIn_app (goodIn_of _ (by decide +kernel)) ggX1_findHopeful_X1_passHopeBack
theorem dX1_findHopeful_0 : decode cX1_findHopeful 0 = .ok (.iconst 0, 1) := by decide +kernel
theorem dX1_findHopeful_1 : decode cX1_findHopeful 1 = .ok (.istore_n 1, 1) := by decide +kernel
theorem dX1_findHopeful_2 : decode cX1_findHopeful 2 = .ok (.iload_n 1, 1) := by decide +kernel
theorem dX1_findHopeful_3 : decode cX1_findHopeful 3 = .ok (.bipush 20, 2) := by decide +kernel
theorem dX1_findHopeful_5 : decode cX1_findHopeful 5 = .ok (.if_icmp .ge 16, 3) := by decide +kernel
theorem dX1_findHopeful_8 : decode cX1_findHopeful 8 = .ok (.aload_n 0, 1) := by decide +kernel
theorem dX1_findHopeful_9 : decode cX1_findHopeful 9 = .ok (.getfield 38, 3) := by decide +kernel
theorem dX1_findHopeful_12 : decode cX1_findHopeful 12 = .ok (.iload_n 1, 1) := by decide +kernel
theorem dX1_findHopeful_13 : decode cX1_findHopeful 13 = .ok (.iconst 0, 1) := by decide +kernel
theorem dX1_findHopeful_14 : decode cX1_findHopeful 14 = .ok (.bastore, 1) := by decide +kernel
theorem dX1_findHopeful_15 : decode cX1_findHopeful 15 = .ok (.iinc 1 1, 3) := by decide +kernel
theorem dX1_findHopeful_18 : decode cX1_findHopeful 18 = .ok (.goto (-16), 3) := by decide +kernel
theorem dX1_findHopeful_21 : decode cX1_findHopeful 21 = .ok (.iconst 0, 1) := by decide +kernel
theorem dX1_findHopeful_22 : decode cX1_findHopeful 22 = .ok (.istore_n 1, 1) := by decide +kernel
theorem dX1_findHopeful_23 : decode cX1_findHopeful 23 = .ok (.iload_n 1, 1) := by decide +kernel
theorem dX1_findHopeful_24 : decode cX1_findHopeful 24 = .ok (.aload_n 0, 1) := by decide +kernel
theorem dX1_findHopeful_25 : decode cX1_findHopeful 25 = .ok (.getfield 46, 3) := by decide +kernel
theorem dX1_findHopeful_28 : decode cX1_findHopeful 28 = .ok (.if_icmp .ge 35, 3) := by decide +kernel
theorem dX1_findHopeful_31 : decode cX1_findHopeful 31 = .ok (.aload_n 0, 1) := by decide +kernel
theorem dX1_findHopeful_32 : decode cX1_findHopeful 32 = .ok (.aload_n 0, 1) := by decide +kernel
theorem dX1_findHopeful_33 : decode cX1_findHopeful 33 = .ok (.iload_n 1, 1) := by decide +kernel
theorem dX1_findHopeful_34 : decode cX1_findHopeful 34 = .ok (.invokevirtual 53, 3) := by decide +kernel
theorem dX1_findHopeful_37 : decode cX1_findHopeful 37 = .ok (.ifCond .eq 16, 3) := by decide +kernel
theorem dX1_findHopeful_40 : decode cX1_findHopeful 40 = .ok (.aload_n 0, 1) := by decide +kernel
theorem dX1_findHopeful_41 : decode cX1_findHopeful 41 = .ok (.getfield 27, 3) := by decide +kernel
theorem dX1_findHopeful_44 : decode cX1_findHopeful 44 = .ok (.iload_n 1, 1) := by decide +kernel
theorem dX1_findHopeful_45 : decode cX1_findHopeful 45 = .ok (.iaload, 1) := by decide +kernel
theorem dX1_findHopeful_46 : decode cX1_findHopeful 46 = .ok (.iconst 0, 1) := by decide +kernel
theorem dX1_findHopeful_47 : decode cX1_findHopeful 47 = .ok (.invokestatic 56, 3) := by decide +kernel
theorem dX1_findHopeful_50 : decode cX1_findHopeful 50 = .ok (.goto 4, 3) := by decide +kernel
theorem dX1_findHopeful_53 : decode cX1_findHopeful 53 = .ok (.iconst (-1), 1) := by decide +kernel
theorem dX1_findHopeful_54 : decode cX1_findHopeful 54 = .ok (.invokevirtual 60, 3) := by decide +kernel
theorem dX1_findHopeful_57 : decode cX1_findHopeful 57 = .ok (.iinc 1 1, 3) := by decide +kernel
theorem dX1_findHopeful_60 : decode cX1_findHopeful 60 = .ok (.goto (-37), 3) := by decide +kernel
theorem dX1_findHopeful_63 : decode cX1_findHopeful 63 = .ok (.iconst 0, 1) := by decide +kernel
theorem dX1_findHopeful_64 : decode cX1_findHopeful 64 = .ok (.istore_n 1, 1) := by decide +kernel
theorem dX1_findHopeful_65 : decode cX1_findHopeful 65 = .ok (.iload_n 1, 1) := by decide +kernel
theorem dX1_findHopeful_66 : decode cX1_findHopeful 66 = .ok (.bipush 20, 2) := by decide +kernel
theorem dX1_findHopeful_68 : decode cX1_findHopeful 68 = .ok (.if_icmp .ge 37, 3) := by decide +kernel
theorem dX1_findHopeful_71 : decode cX1_findHopeful 71 = .ok (.iconst 0, 1) := by decide +kernel
theorem dX1_findHopeful_72 : decode cX1_findHopeful 72 = .ok (.istore_n 2, 1) := by decide +kernel
theorem dX1_findHopeful_73 : decode cX1_findHopeful 73 = .ok (.iload_n 2, 1) := by decide +kernel
theorem dX1_findHopeful_74 : decode cX1_findHopeful 74 = .ok (.aload_n 0, 1) := by decide +kernel
theorem dX1_findHopeful_75 : decode cX1_findHopeful 75 = .ok (.getfield 42, 3) := by decide +kernel
theorem dX1_findHopeful_78 : decode cX1_findHopeful 78 = .ok (.if_icmp .ge 21, 3) := by decide +kernel
theorem dX1_findHopeful_81 : decode cX1_findHopeful 81 = .ok (.aload_n 0, 1) := by decide +kernel
theorem dX1_findHopeful_82 : decode cX1_findHopeful 82 = .ok (.iload_n 2, 1) := by decide +kernel
theorem dX1_findHopeful_83 : decode cX1_findHopeful 83 = .ok (.iconst 0, 1) := by decide +kernel
theorem dX1_findHopeful_84 : decode cX1_findHopeful 84 = .ok (.invokevirtual 64, 3) := by decide +kernel
theorem dX1_findHopeful_87 : decode cX1_findHopeful 87 = .ok (.aload_n 0, 1) := by decide +kernel
theorem dX1_findHopeful_88 : decode cX1_findHopeful 88 = .ok (.iload_n 2, 1) := by decide +kernel
theorem dX1_findHopeful_89 : decode cX1_findHopeful 89 = .ok (.iconst 1, 1) := by decide +kernel
theorem dX1_findHopeful_90 : decode cX1_findHopeful 90 = .ok (.invokevirtual 64, 3) := by decide +kernel
theorem dX1_findHopeful_93 : decode cX1_findHopeful 93 = .ok (.iinc 2 1, 3) := by decide +kernel
theorem dX1_findHopeful_96 : decode cX1_findHopeful 96 = .ok (.goto (-23), 3) := by decide +kernel
theorem dX1_findHopeful_99 : decode cX1_findHopeful 99 = .ok (.iinc 1 1, 3) := by decide +kernel
theorem dX1_findHopeful_102 : decode cX1_findHopeful 102 = .ok (.goto (-37), 3) := by decide +kernel
theorem dX1_findHopeful_105 : decode cX1_findHopeful 105 = .ok (.return_, 1) := by decide +kernel
set_option maxRecDepth 20000 in
theorem ggX1_passHopeBack_X1_hasGo : GoodIn wsX1_passHopeBack wsX1_hasGo := goodIn_r _ [6, 7, 26, 27, 28, 29, 30, 31, 32, 33, 34, 35, 36] (by decide +kernel) (by decide +kernel)
set_option maxRecDepth 20000 in
theorem gX1_passHopeBack_X1_hasGo : GoodIn wsX1_passHopeBack (wsV RX1 49 RX1 yX1_hasGo wsX1_hasGo) := goodIn_app (goodIn_of _ (by decide +kernel)) ggX1_passHopeBack_X1_hasGo
set_option maxRecDepth 20000 in
theorem ggX1_passHopeBack_X1_nodeBehind : GoodIn wsX1_passHopeBack wsX1_nodeBehind := goodIn_r _ [11, 12, 13, 2, 3, 4, 5, 6, 7, 14, 15, 16, 26, 27, 28, 29, 30, 31, 32, 33, 34, 35, 36] (by decide +kernel) (by decide +kernel)
set_option maxRecDepth 20000 in
theorem gX1_passHopeBack_X1_nodeBehind : GoodIn wsX1_passHopeBack (wsV RX1 68 RX1 yX1_nodeBehind wsX1_nodeBehind) := goodIn_app (goodIn_of _ (by decide +kernel)) ggX1_passHopeBack_X1_nodeBehind
set_option maxRecDepth 20000 in
theorem ggX1_passHopeBack_X1_isHopeful : GoodIn wsX1_passHopeBack wsX1_isHopeful := goodIn_r _ [20, 21, 26, 27, 28, 29, 30, 31, 32, 33, 34, 35, 36] (by decide +kernel) (by decide +kernel)
set_option maxRecDepth 20000 in
theorem gX1_passHopeBack_X1_isHopeful : GoodIn wsX1_passHopeBack (wsV RX1 71 RX1 yX1_isHopeful wsX1_isHopeful) := goodIn_app (goodIn_of _ (by decide +kernel)) ggX1_passHopeBack_X1_isHopeful
set_option maxRecDepth 20000 in
theorem ggX1_passHopeBack_X4_nodeOf : GoodIn wsX1_passHopeBack wsX4_nodeOf := goodIn_r _ [16] (by decide +kernel) (by decide +kernel)
set_option maxRecDepth 20000 in
theorem gX1_passHopeBack_X4_nodeOf_n56 : GoodIn wsX1_passHopeBack (wsX4_nodeOf) := ggX1_passHopeBack_X4_nodeOf
set_option maxRecDepth 20000 in
theorem ggX1_passHopeBack_X1_setHopeful : GoodIn wsX1_passHopeBack wsX1_setHopeful := goodIn_r _ [25, 21, 26, 27, 28, 29, 30, 31, 32, 33, 34, 35, 36] (by decide +kernel) (by decide +kernel)
set_option maxRecDepth 20000 in
theorem gX1_passHopeBack_X1_setHopeful : GoodIn wsX1_passHopeBack (wsV RX1 60 RX1 yX1_setHopeful wsX1_setHopeful) := goodIn_app (goodIn_of _ (by decide +kernel)) ggX1_passHopeBack_X1_setHopeful
theorem dX1_passHopeBack_0 : decode cX1_passHopeBack 0 = .ok (.aload_n 0, 1) := by decide +kernel
theorem dX1_passHopeBack_1 : decode cX1_passHopeBack 1 = .ok (.iload_n 1, 1) := by decide +kernel
theorem dX1_passHopeBack_2 : decode cX1_passHopeBack 2 = .ok (.invokevirtual 49, 3) := by decide +kernel
theorem dX1_passHopeBack_5 : decode cX1_passHopeBack 5 = .ok (.ifCond .eq 30, 3) := by decide +kernel
theorem dX1_passHopeBack_8 : decode cX1_passHopeBack 8 = .ok (.aload_n 0, 1) := by decide +kernel
theorem dX1_passHopeBack_9 : decode cX1_passHopeBack 9 = .ok (.aload_n 0, 1) := by decide +kernel
theorem dX1_passHopeBack_10 : decode cX1_passHopeBack 10 = .ok (.iload_n 1, 1) := by decide +kernel
theorem dX1_passHopeBack_11 : decode cX1_passHopeBack 11 = .ok (.iload_n 2, 1) := by decide +kernel
theorem dX1_passHopeBack_12 : decode cX1_passHopeBack 12 = .ok (.invokevirtual 68, 3) := by decide +kernel
theorem dX1_passHopeBack_15 : decode cX1_passHopeBack 15 = .ok (.invokevirtual 71, 3) := by decide +kernel
theorem dX1_passHopeBack_18 : decode cX1_passHopeBack 18 = .ok (.ifCond .eq 17, 3) := by decide +kernel
theorem dX1_passHopeBack_21 : decode cX1_passHopeBack 21 = .ok (.aload_n 0, 1) := by decide +kernel
theorem dX1_passHopeBack_22 : decode cX1_passHopeBack 22 = .ok (.aload_n 0, 1) := by decide +kernel
theorem dX1_passHopeBack_23 : decode cX1_passHopeBack 23 = .ok (.getfield 11, 3) := by decide +kernel
theorem dX1_passHopeBack_26 : decode cX1_passHopeBack 26 = .ok (.iload_n 1, 1) := by decide +kernel
theorem dX1_passHopeBack_27 : decode cX1_passHopeBack 27 = .ok (.iaload, 1) := by decide +kernel
theorem dX1_passHopeBack_28 : decode cX1_passHopeBack 28 = .ok (.iload_n 2, 1) := by decide +kernel
theorem dX1_passHopeBack_29 : decode cX1_passHopeBack 29 = .ok (.invokestatic 56, 3) := by decide +kernel
theorem dX1_passHopeBack_32 : decode cX1_passHopeBack 32 = .ok (.invokevirtual 60, 3) := by decide +kernel
theorem dX1_passHopeBack_35 : decode cX1_passHopeBack 35 = .ok (.return_, 1) := by decide +kernel
theorem dX1_setHopeful_0 : decode cX1_setHopeful 0 = .ok (.iload_n 1, 1) := by decide +kernel
theorem dX1_setHopeful_1 : decode cX1_setHopeful 1 = .ok (.ifCond .lt 16, 3) := by decide +kernel
theorem dX1_setHopeful_4 : decode cX1_setHopeful 4 = .ok (.iload_n 1, 1) := by decide +kernel
theorem dX1_setHopeful_5 : decode cX1_setHopeful 5 = .ok (.bipush 20, 2) := by decide +kernel
theorem dX1_setHopeful_7 : decode cX1_setHopeful 7 = .ok (.if_icmp .ge 10, 3) := by decide +kernel
theorem dX1_setHopeful_10 : decode cX1_setHopeful 10 = .ok (.aload_n 0, 1) := by decide +kernel
theorem dX1_setHopeful_11 : decode cX1_setHopeful 11 = .ok (.getfield 38, 3) := by decide +kernel
theorem dX1_setHopeful_14 : decode cX1_setHopeful 14 = .ok (.iload_n 1, 1) := by decide +kernel
theorem dX1_setHopeful_15 : decode cX1_setHopeful 15 = .ok (.iconst 1, 1) := by decide +kernel
theorem dX1_setHopeful_16 : decode cX1_setHopeful 16 = .ok (.bastore, 1) := by decide +kernel
theorem dX1_setHopeful_17 : decode cX1_setHopeful 17 = .ok (.return_, 1) := by decide +kernel
theorem dX2_init_0 : decode cX2_init 0 = .ok (.aload_n 0, 1) := by decide +kernel
theorem dX2_init_1 : decode cX2_init 1 = .ok (.invokespecial 3, 3) := by decide +kernel
theorem dX2_init_4 : decode cX2_init 4 = .ok (.aload_n 0, 1) := by decide +kernel
theorem dX2_init_5 : decode cX2_init 5 = .ok (.aload_n 1, 1) := by decide +kernel
theorem dX2_init_6 : decode cX2_init 6 = .ok (.putfield 9, 3) := by decide +kernel
theorem dX2_init_9 : decode cX2_init 9 = .ok (.return_, 1) := by decide +kernel
set_option maxRecDepth 20000 in
theorem ggX2_read_X1_empty : GoodIn wsX2_read wsX1_empty := goodIn_r _ [8, 9, 10, 138, 139, 140, 141, 142, 143, 144, 145, 146, 147, 148] (by decide +kernel) (by decide +kernel)
set_option maxRecDepth 20000 in
theorem gX2_read_X1_empty : GoodIn wsX2_read (wsV RX2 15 RX1 yX1_empty wsX1_empty) := goodIn_app (goodIn_of _ (by decide +kernel)) ggX2_read_X1_empty
set_option maxRecDepth 20000 in
theorem ggX2_read_X2_advance : GoodIn wsX2_read wsX2_advance := goodIn_r _ [15, 2, 16, 17, 3, 18, 19, 20, 14, 21, 22, 23, 24, 25, 26, 27, 28, 29, 30, 31, 133, 134, 135, 136, 137, 149, 150] (by decide +kernel) (by decide +kernel)
set_option maxRecDepth 20000 in
theorem gX2_read_X2_advance : GoodIn wsX2_read (wsV RX2 27 RX2 yX2_advance wsX2_advance) := goodIn_app (goodIn_of _ (by decide +kernel)) ggX2_read_X2_advance
set_option maxRecDepth 20000 in
theorem ggX2_read_X2_isText : GoodIn wsX2_read wsX2_isText := goodIn_r _ [35, 3, 2, 16, 17, 36, 37, 38, 39, 40, 41, 42, 43, 44, 45, 46, 47, 22, 23, 24, 25, 26, 27, 28, 48, 49, 50, 51, 52, 53, 54, 55, 56, 57, 58, 59, 60, 61, 62, 63, 64, 65, 66, 67, 68, 69, 70, 71, 72, 73, 74, 75, 76, 77, 78, 79, 80, 81, 82, 83, 84, 133, 134, 135, 136, 137, 149, 150] (by decide +kernel) (by decide +kernel)
set_option maxRecDepth 20000 in
theorem gX2_read_X2_isText : GoodIn wsX2_read (wsV RX2 37 RX2 yX2_isText wsX2_isText) := goodIn_app (goodIn_of _ (by decide +kernel)) ggX2_read_X2_isText
set_option maxRecDepth 20000 in
theorem ggX2_read_X2_readGo : GoodIn wsX2_read wsX2_readGo := goodIn_r _ [88, 3, 1, 89, 90, 91, 14, 92, 16, 11, 12, 13, 15, 2, 17, 18, 19, 20, 21, 22, 23, 24, 25, 26, 27, 28, 29, 30, 31, 93, 94, 95, 96, 97, 98, 99, 100, 32, 33, 34, 35, 36, 37, 38, 39, 40, 41, 42, 43, 44, 45, 46, 47, 48, 49, 50, 51, 52, 53, 54, 55, 56, 57, 58, 59, 60, 61, 62, 63, 64, 65, 66, 67, 68, 69, 70, 71, 72, 73, 74, 75, 76, 77, 78, 79, 80, 81, 82, 83, 84, 101, 102, 103, 104, 105, 106, 107, 108, 109, 110, 111, 7, 112, 9, 113, 114, 115, 116, 117, 138, 139, 140, 141, 142, 143, 144, 145, 146, 147, 148, 133, 134, 135, 136, 137, 149, 150] (by decide +kernel) (by decide +kernel)
set_option maxRecDepth 20000 in
theorem gX2_read_X2_readGo : GoodIn wsX2_read (wsV RX2 41 RX2 yX2_readGo wsX2_readGo) := goodIn_app (goodIn_of _ (by decide +kernel)) ggX2_read_X2_readGo
set_option maxRecDepth 20000 in
theorem ggX2_read_X2_readEnd : GoodIn wsX2_read wsX2_readEnd := goodIn_r _ [121, 3, 1, 89, 90, 91, 14, 92, 16, 11, 12, 13, 15, 2, 17, 18, 19, 20, 21, 22, 23, 24, 25, 26, 27, 28, 29, 30, 31, 93, 94, 95, 96, 97, 98, 99, 100, 32, 33, 34, 35, 36, 37, 38, 39, 40, 41, 42, 43, 44, 45, 46, 47, 48, 49, 50, 51, 52, 53, 54, 55, 56, 57, 58, 59, 60, 61, 62, 63, 64, 65, 66, 67, 68, 69, 70, 71, 72, 73, 74, 75, 76, 77, 78, 79, 80, 81, 82, 83, 84, 101, 102, 103, 104, 122, 123, 124, 125, 126, 127, 128, 7, 129, 10, 130, 131, 132, 138, 139, 140, 141, 142, 143, 144, 145, 146, 147, 148, 133, 134, 135, 136, 137, 149, 150] (by decide +kernel) (by decide +kernel)
set_option maxRecDepth 20000 in
theorem gX2_read_X2_readEnd : GoodIn wsX2_read (wsV RX2 47 RX2 yX2_readEnd wsX2_readEnd) := goodIn_app (goodIn_of _ (by decide +kernel)) ggX2_read_X2_readEnd
set_option maxRecDepth 20000 in
theorem ggX2_read_X2_refuse : GoodIn wsX2_read wsX2_refuse := goodIn_r _ [92, 1, 16, 133, 134, 135, 136, 137] (by decide +kernel) (by decide +kernel)
set_option maxRecDepth 20000 in
theorem gX2_read_X2_refuse : GoodIn wsX2_read (wsV RX2 50 RX2 yX2_refuse wsX2_refuse) := goodIn_app (goodIn_of _ (by decide +kernel)) ggX2_read_X2_refuse
theorem dX2_read_0 : decode cX2_read 0 = .ok (.aload_n 1, 1) := by decide +kernel
theorem dX2_read_1 : decode cX2_read 1 = .ok (.invokevirtual 15, 3) := by decide +kernel
theorem dX2_read_4 : decode cX2_read 4 = .ok (.aload_n 0, 1) := by decide +kernel
theorem dX2_read_5 : decode cX2_read 5 = .ok (.iconst 0, 1) := by decide +kernel
theorem dX2_read_6 : decode cX2_read 6 = .ok (.putfield 20, 3) := by decide +kernel
theorem dX2_read_9 : decode cX2_read 9 = .ok (.aload_n 0, 1) := by decide +kernel
theorem dX2_read_10 : decode cX2_read 10 = .ok (.iconst 0, 1) := by decide +kernel
theorem dX2_read_11 : decode cX2_read 11 = .ok (.putfield 24, 3) := by decide +kernel
theorem dX2_read_14 : decode cX2_read 14 = .ok (.aload_n 0, 1) := by decide +kernel
theorem dX2_read_15 : decode cX2_read 15 = .ok (.invokevirtual 27, 3) := by decide +kernel
theorem dX2_read_18 : decode cX2_read 18 = .ok (.iconst 0, 1) := by decide +kernel
theorem dX2_read_19 : decode cX2_read 19 = .ok (.istore_n 2, 1) := by decide +kernel
theorem dX2_read_20 : decode cX2_read 20 = .ok (.iload_n 2, 1) := by decide +kernel
theorem dX2_read_21 : decode cX2_read 21 = .ok (.sipush 1600, 3) := by decide +kernel
theorem dX2_read_24 : decode cX2_read 24 = .ok (.if_icmp .ge 62, 3) := by decide +kernel
theorem dX2_read_27 : decode cX2_read 27 = .ok (.aload_n 0, 1) := by decide +kernel
theorem dX2_read_28 : decode cX2_read 28 = .ok (.getfield 20, 3) := by decide +kernel
theorem dX2_read_31 : decode cX2_read 31 = .ok (.ifCond .ne 55, 3) := by decide +kernel
theorem dX2_read_34 : decode cX2_read 34 = .ok (.aload_n 0, 1) := by decide +kernel
theorem dX2_read_35 : decode cX2_read 35 = .ok (.getfield 32, 3) := by decide +kernel
theorem dX2_read_38 : decode cX2_read 38 = .ok (.ifCond .eq 48, 3) := by decide +kernel
theorem dX2_read_41 : decode cX2_read 41 = .ok (.aload_n 0, 1) := by decide +kernel
theorem dX2_read_42 : decode cX2_read 42 = .ok (.ldc 35, 2) := by decide +kernel
theorem dX2_read_44 : decode cX2_read 44 = .ok (.invokevirtual 37, 3) := by decide +kernel
theorem dX2_read_47 : decode cX2_read 47 = .ok (.ifCond .eq 11, 3) := by decide +kernel
theorem dX2_read_50 : decode cX2_read 50 = .ok (.aload_n 0, 1) := by decide +kernel
theorem dX2_read_51 : decode cX2_read 51 = .ok (.aload_n 1, 1) := by decide +kernel
theorem dX2_read_52 : decode cX2_read 52 = .ok (.invokevirtual 41, 3) := by decide +kernel
theorem dX2_read_55 : decode cX2_read 55 = .ok (.goto 25, 3) := by decide +kernel
theorem dX2_read_58 : decode cX2_read 58 = .ok (.aload_n 0, 1) := by decide +kernel
theorem dX2_read_59 : decode cX2_read 59 = .ok (.ldc 45, 2) := by decide +kernel
theorem dX2_read_61 : decode cX2_read 61 = .ok (.invokevirtual 37, 3) := by decide +kernel
theorem dX2_read_64 : decode cX2_read 64 = .ok (.ifCond .eq 11, 3) := by decide +kernel
theorem dX2_read_67 : decode cX2_read 67 = .ok (.aload_n 0, 1) := by decide +kernel
theorem dX2_read_68 : decode cX2_read 68 = .ok (.aload_n 1, 1) := by decide +kernel
theorem dX2_read_69 : decode cX2_read 69 = .ok (.invokevirtual 47, 3) := by decide +kernel
theorem dX2_read_72 : decode cX2_read 72 = .ok (.goto 8, 3) := by decide +kernel
theorem dX2_read_75 : decode cX2_read 75 = .ok (.aload_n 0, 1) := by decide +kernel
theorem dX2_read_76 : decode cX2_read 76 = .ok (.iconst 1, 1) := by decide +kernel
theorem dX2_read_77 : decode cX2_read 77 = .ok (.invokevirtual 50, 3) := by decide +kernel
theorem dX2_read_80 : decode cX2_read 80 = .ok (.iinc 2 1, 3) := by decide +kernel
theorem dX2_read_83 : decode cX2_read 83 = .ok (.goto (-63), 3) := by decide +kernel
theorem dX2_read_86 : decode cX2_read 86 = .ok (.aload_n 0, 1) := by decide +kernel
theorem dX2_read_87 : decode cX2_read 87 = .ok (.getfield 20, 3) := by decide +kernel
theorem dX2_read_90 : decode cX2_read 90 = .ok (.ireturn, 1) := by decide +kernel
set_option maxRecDepth 20000 in
theorem ggX2_readGo_X2_refuse : GoodIn wsX2_readGo wsX2_refuse := goodIn_r _ [7, 2, 8, 120, 121, 122, 123, 124] (by decide +kernel) (by decide +kernel)
set_option maxRecDepth 20000 in
theorem gX2_readGo_X2_refuse : GoodIn wsX2_readGo (wsV RX2 50 RX2 yX2_refuse wsX2_refuse) := goodIn_app (goodIn_of _ (by decide +kernel)) ggX2_readGo_X2_refuse
set_option maxRecDepth 20000 in
theorem ggX2_readGo_X2_advance : GoodIn wsX2_readGo wsX2_advance := goodIn_r _ [12, 13, 8, 14, 1, 15, 16, 17, 6, 18, 19, 20, 21, 22, 23, 24, 25, 26, 27, 28, 120, 121, 122, 123, 124, 125, 126] (by decide +kernel) (by decide +kernel)
set_option maxRecDepth 20000 in
theorem gX2_readGo_X2_advance : GoodIn wsX2_readGo (wsV RX2 27 RX2 yX2_advance wsX2_advance) := goodIn_app (goodIn_of _ (by decide +kernel)) ggX2_readGo_X2_advance
set_option maxRecDepth 20000 in
theorem ggX2_readGo_X2_readNumber : GoodIn wsX2_readGo wsX2_readNumber := goodIn_r _ [32, 1, 2, 33, 34, 35, 6, 36, 8, 13, 14, 19, 20, 21, 22, 23, 24, 25, 3, 4, 5, 7, 9, 10, 11, 12, 15, 16, 17, 18, 26, 27, 28, 120, 121, 122, 123, 124, 125, 126] (by decide +kernel) (by decide +kernel)
set_option maxRecDepth 20000 in
theorem gX2_readGo_X2_readNumber : GoodIn wsX2_readGo (wsV RX2 57 RX2 yX2_readNumber wsX2_readNumber) := goodIn_app (goodIn_of _ (by decide +kernel)) ggX2_readGo_X2_readNumber
set_option maxRecDepth 20000 in
theorem ggX2_readGo_X2_isText : GoodIn wsX2_readGo wsX2_isText := goodIn_r _ [40, 1, 13, 8, 14, 41, 42, 43, 44, 45, 46, 47, 48, 49, 50, 51, 52, 19, 20, 21, 22, 23, 24, 25, 53, 54, 55, 56, 57, 58, 59, 60, 61, 62, 63, 64, 65, 66, 67, 68, 69, 70, 71, 72, 73, 74, 75, 76, 77, 78, 79, 80, 81, 82, 83, 84, 85, 86, 87, 88, 89, 120, 121, 122, 123, 124, 125, 126] (by decide +kernel) (by decide +kernel)
set_option maxRecDepth 20000 in
theorem gX2_readGo_X2_isText : GoodIn wsX2_readGo (wsV RX2 37 RX2 yX2_isText wsX2_isText) := goodIn_app (goodIn_of _ (by decide +kernel)) ggX2_readGo_X2_isText
set_option maxRecDepth 20000 in
theorem ggX2_readGo_X2_passIf : GoodIn wsX2_readGo wsX2_passIf := goodIn_r _ [93, 2, 3, 4, 5, 6, 7, 8, 9, 10, 11, 12, 13, 14, 1, 15, 16, 17, 18, 19, 20, 21, 22, 23, 24, 25, 26, 27, 28, 120, 121, 122, 123, 124, 125, 126] (by decide +kernel) (by decide +kernel)
set_option maxRecDepth 20000 in
theorem gX2_readGo_X2_passIf : GoodIn wsX2_readGo (wsV RX2 63 RX2 yX2_passIf wsX2_passIf) := goodIn_app (goodIn_of _ (by decide +kernel)) ggX2_readGo_X2_passIf
set_option maxRecDepth 20000 in
theorem ggX2_readGo_X2_goMarkHere : GoodIn wsX2_readGo wsX2_goMarkHere := goodIn_r _ [97, 37, 38, 39, 6, 40, 1, 13, 8, 14, 41, 42, 43, 44, 45, 46, 47, 48, 49, 50, 51, 52, 19, 20, 21, 22, 23, 24, 25, 53, 54, 55, 56, 57, 58, 59, 60, 61, 62, 63, 64, 65, 66, 67, 68, 69, 70, 71, 72, 73, 74, 75, 76, 77, 78, 79, 80, 81, 82, 83, 84, 85, 86, 87, 88, 89, 120, 121, 122, 123, 124, 125, 126] (by decide +kernel) (by decide +kernel)
set_option maxRecDepth 20000 in
theorem gX2_readGo_X2_goMarkHere : GoodIn wsX2_readGo (wsV RX2 73 RX2 yX2_goMarkHere wsX2_goMarkHere) := goodIn_app (goodIn_of _ (by decide +kernel)) ggX2_readGo_X2_goMarkHere
set_option maxRecDepth 20000 in
theorem ggX2_readGo_X1_addGo : GoodIn wsX2_readGo wsX1_addGo := goodIn_r _ [102, 103, 104, 105, 106, 107, 108, 109, 110, 111, 112, 113, 114, 115, 116, 117, 118, 119] (by decide +kernel) (by decide +kernel)
set_option maxRecDepth 20000 in
theorem gX2_readGo_X1_addGo : GoodIn wsX2_readGo (wsV RX2 77 RX1 yX1_addGo wsX1_addGo) := goodIn_app (goodIn_of _ (by decide +kernel)) ggX2_readGo_X1_addGo
theorem dX2_readGo_0 : decode cX2_readGo 0 = .ok (.aload_n 1, 1) := by decide +kernel
theorem dX2_readGo_1 : decode cX2_readGo 1 = .ok (.getfield 54, 3) := by decide +kernel
theorem dX2_readGo_4 : decode cX2_readGo 4 = .ok (.bipush 40, 2) := by decide +kernel
theorem dX2_readGo_6 : decode cX2_readGo 6 = .ok (.if_icmp .lt 9, 3) := by decide +kernel
theorem dX2_readGo_9 : decode cX2_readGo 9 = .ok (.aload_n 0, 1) := by decide +kernel
theorem dX2_readGo_10 : decode cX2_readGo 10 = .ok (.iconst 5, 1) := by decide +kernel
theorem dX2_readGo_11 : decode cX2_readGo 11 = .ok (.invokevirtual 50, 3) := by decide +kernel
theorem dX2_readGo_14 : decode cX2_readGo 14 = .ok (.return_, 1) := by decide +kernel
theorem dX2_readGo_15 : decode cX2_readGo 15 = .ok (.aload_n 0, 1) := by decide +kernel
theorem dX2_readGo_16 : decode cX2_readGo 16 = .ok (.invokevirtual 27, 3) := by decide +kernel
theorem dX2_readGo_19 : decode cX2_readGo 19 = .ok (.aload_n 0, 1) := by decide +kernel
theorem dX2_readGo_20 : decode cX2_readGo 20 = .ok (.bipush 9, 2) := by decide +kernel
theorem dX2_readGo_22 : decode cX2_readGo 22 = .ok (.invokevirtual 57, 3) := by decide +kernel
theorem dX2_readGo_25 : decode cX2_readGo 25 = .ok (.istore_n 2, 1) := by decide +kernel
theorem dX2_readGo_26 : decode cX2_readGo 26 = .ok (.aload_n 0, 1) := by decide +kernel
theorem dX2_readGo_27 : decode cX2_readGo 27 = .ok (.aload_n 0, 1) := by decide +kernel
theorem dX2_readGo_28 : decode cX2_readGo 28 = .ok (.ldc 61, 2) := by decide +kernel
theorem dX2_readGo_30 : decode cX2_readGo 30 = .ok (.invokevirtual 37, 3) := by decide +kernel
theorem dX2_readGo_33 : decode cX2_readGo 33 = .ok (.invokevirtual 63, 3) := by decide +kernel
theorem dX2_readGo_36 : decode cX2_readGo 36 = .ok (.aload_n 0, 1) := by decide +kernel
theorem dX2_readGo_37 : decode cX2_readGo 37 = .ok (.bipush 7, 2) := by decide +kernel
theorem dX2_readGo_39 : decode cX2_readGo 39 = .ok (.invokevirtual 57, 3) := by decide +kernel
theorem dX2_readGo_42 : decode cX2_readGo 42 = .ok (.istore_n 3, 1) := by decide +kernel
theorem dX2_readGo_43 : decode cX2_readGo 43 = .ok (.aload_n 0, 1) := by decide +kernel
theorem dX2_readGo_44 : decode cX2_readGo 44 = .ok (.aload_n 0, 1) := by decide +kernel
theorem dX2_readGo_45 : decode cX2_readGo 45 = .ok (.ldc 67, 2) := by decide +kernel
theorem dX2_readGo_47 : decode cX2_readGo 47 = .ok (.invokevirtual 37, 3) := by decide +kernel
theorem dX2_readGo_50 : decode cX2_readGo 50 = .ok (.invokevirtual 63, 3) := by decide +kernel
theorem dX2_readGo_53 : decode cX2_readGo 53 = .ok (.aload_n 0, 1) := by decide +kernel
theorem dX2_readGo_54 : decode cX2_readGo 54 = .ok (.bipush 9, 2) := by decide +kernel
theorem dX2_readGo_56 : decode cX2_readGo 56 = .ok (.invokevirtual 57, 3) := by decide +kernel
theorem dX2_readGo_59 : decode cX2_readGo 59 = .ok (.istore 4, 2) := by decide +kernel
theorem dX2_readGo_61 : decode cX2_readGo 61 = .ok (.aload_n 0, 1) := by decide +kernel
theorem dX2_readGo_62 : decode cX2_readGo 62 = .ok (.aload_n 0, 1) := by decide +kernel
theorem dX2_readGo_63 : decode cX2_readGo 63 = .ok (.ldc 69, 2) := by decide +kernel
theorem dX2_readGo_65 : decode cX2_readGo 65 = .ok (.invokevirtual 37, 3) := by decide +kernel
theorem dX2_readGo_68 : decode cX2_readGo 68 = .ok (.invokevirtual 63, 3) := by decide +kernel
theorem dX2_readGo_71 : decode cX2_readGo 71 = .ok (.aload_n 0, 1) := by decide +kernel
theorem dX2_readGo_72 : decode cX2_readGo 72 = .ok (.sipush 999, 3) := by decide +kernel
theorem dX2_readGo_75 : decode cX2_readGo 75 = .ok (.invokevirtual 57, 3) := by decide +kernel
theorem dX2_readGo_78 : decode cX2_readGo 78 = .ok (.istore 5, 2) := by decide +kernel
theorem dX2_readGo_80 : decode cX2_readGo 80 = .ok (.iconst 0, 1) := by decide +kernel
theorem dX2_readGo_81 : decode cX2_readGo 81 = .ok (.istore 6, 2) := by decide +kernel
theorem dX2_readGo_83 : decode cX2_readGo 83 = .ok (.aload_n 0, 1) := by decide +kernel
theorem dX2_readGo_84 : decode cX2_readGo 84 = .ok (.ldc 71, 2) := by decide +kernel
theorem dX2_readGo_86 : decode cX2_readGo 86 = .ok (.invokevirtual 37, 3) := by decide +kernel
theorem dX2_readGo_89 : decode cX2_readGo 89 = .ok (.ifCond .eq 28, 3) := by decide +kernel
theorem dX2_readGo_92 : decode cX2_readGo 92 = .ok (.aload_n 0, 1) := by decide +kernel
theorem dX2_readGo_93 : decode cX2_readGo 93 = .ok (.iconst 1, 1) := by decide +kernel
theorem dX2_readGo_94 : decode cX2_readGo 94 = .ok (.invokevirtual 63, 3) := by decide +kernel
theorem dX2_readGo_97 : decode cX2_readGo 97 = .ok (.aload_n 0, 1) := by decide +kernel
theorem dX2_readGo_98 : decode cX2_readGo 98 = .ok (.invokevirtual 73, 3) := by decide +kernel
theorem dX2_readGo_101 : decode cX2_readGo 101 = .ok (.istore 6, 2) := by decide +kernel
theorem dX2_readGo_103 : decode cX2_readGo 103 = .ok (.aload_n 0, 1) := by decide +kernel
theorem dX2_readGo_104 : decode cX2_readGo 104 = .ok (.iload 6, 2) := by decide +kernel
theorem dX2_readGo_106 : decode cX2_readGo 106 = .ok (.ifCond .eq 7, 3) := by decide +kernel
theorem dX2_readGo_109 : decode cX2_readGo 109 = .ok (.iconst 1, 1) := by decide +kernel
theorem dX2_readGo_110 : decode cX2_readGo 110 = .ok (.goto 4, 3) := by decide +kernel
theorem dX2_readGo_113 : decode cX2_readGo 113 = .ok (.iconst 0, 1) := by decide +kernel
theorem dX2_readGo_114 : decode cX2_readGo 114 = .ok (.invokevirtual 63, 3) := by decide +kernel
theorem dX2_readGo_117 : decode cX2_readGo 117 = .ok (.aload_n 0, 1) := by decide +kernel
theorem dX2_readGo_118 : decode cX2_readGo 118 = .ok (.aload_n 0, 1) := by decide +kernel
theorem dX2_readGo_119 : decode cX2_readGo 119 = .ok (.getfield 32, 3) := by decide +kernel
theorem dX2_readGo_122 : decode cX2_readGo 122 = .ok (.iconst 4, 1) := by decide +kernel
theorem dX2_readGo_123 : decode cX2_readGo 123 = .ok (.if_icmp .ne 7, 3) := by decide +kernel
theorem dX2_readGo_126 : decode cX2_readGo 126 = .ok (.iconst 1, 1) := by decide +kernel
theorem dX2_readGo_127 : decode cX2_readGo 127 = .ok (.goto 4, 3) := by decide +kernel
theorem dX2_readGo_130 : decode cX2_readGo 130 = .ok (.iconst 0, 1) := by decide +kernel
theorem dX2_readGo_131 : decode cX2_readGo 131 = .ok (.invokevirtual 63, 3) := by decide +kernel
theorem dX2_readGo_134 : decode cX2_readGo 134 = .ok (.aload_n 0, 1) := by decide +kernel
theorem dX2_readGo_135 : decode cX2_readGo 135 = .ok (.getfield 20, 3) := by decide +kernel
theorem dX2_readGo_138 : decode cX2_readGo 138 = .ok (.ifCond .ne 15, 3) := by decide +kernel
theorem dX2_readGo_141 : decode cX2_readGo 141 = .ok (.aload_n 1, 1) := by decide +kernel
theorem dX2_readGo_142 : decode cX2_readGo 142 = .ok (.iload_n 2, 1) := by decide +kernel
theorem dX2_readGo_143 : decode cX2_readGo 143 = .ok (.iload_n 3, 1) := by decide +kernel
theorem dX2_readGo_144 : decode cX2_readGo 144 = .ok (.iload 4, 2) := by decide +kernel
theorem dX2_readGo_146 : decode cX2_readGo 146 = .ok (.iload 5, 2) := by decide +kernel
theorem dX2_readGo_148 : decode cX2_readGo 148 = .ok (.iload 6, 2) := by decide +kernel
theorem dX2_readGo_150 : decode cX2_readGo 150 = .ok (.invokevirtual 77, 3) := by decide +kernel
theorem dX2_readGo_153 : decode cX2_readGo 153 = .ok (.return_, 1) := by decide +kernel
set_option maxRecDepth 20000 in
theorem ggX2_readEnd_X2_refuse : GoodIn wsX2_readEnd wsX2_refuse := goodIn_r _ [7, 2, 8, 118, 119, 120, 121, 122] (by decide +kernel) (by decide +kernel)
set_option maxRecDepth 20000 in
theorem gX2_readEnd_X2_refuse : GoodIn wsX2_readEnd (wsV RX2 50 RX2 yX2_refuse wsX2_refuse) := goodIn_app (goodIn_of _ (by decide +kernel)) ggX2_readEnd_X2_refuse
set_option maxRecDepth 20000 in
theorem ggX2_readEnd_X2_advance : GoodIn wsX2_readEnd wsX2_advance := goodIn_r _ [12, 13, 8, 14, 1, 15, 16, 17, 6, 18, 19, 20, 21, 22, 23, 24, 25, 26, 27, 28, 118, 119, 120, 121, 122, 123, 124] (by decide +kernel) (by decide +kernel)
set_option maxRecDepth 20000 in
theorem gX2_readEnd_X2_advance : GoodIn wsX2_readEnd (wsV RX2 27 RX2 yX2_advance wsX2_advance) := goodIn_app (goodIn_of _ (by decide +kernel)) ggX2_readEnd_X2_advance
set_option maxRecDepth 20000 in
theorem ggX2_readEnd_X2_readNumber : GoodIn wsX2_readEnd wsX2_readNumber := goodIn_r _ [32, 1, 2, 33, 34, 35, 6, 36, 8, 13, 14, 19, 20, 21, 22, 23, 24, 25, 3, 4, 5, 7, 9, 10, 11, 12, 15, 16, 17, 18, 26, 27, 28, 118, 119, 120, 121, 122, 123, 124] (by decide +kernel) (by decide +kernel)
set_option maxRecDepth 20000 in
theorem gX2_readEnd_X2_readNumber : GoodIn wsX2_readEnd (wsV RX2 57 RX2 yX2_readNumber wsX2_readNumber) := goodIn_app (goodIn_of _ (by decide +kernel)) ggX2_readEnd_X2_readNumber
set_option maxRecDepth 20000 in
theorem ggX2_readEnd_X2_isText : GoodIn wsX2_readEnd wsX2_isText := goodIn_r _ [40, 1, 13, 8, 14, 41, 42, 43, 44, 45, 46, 47, 48, 49, 50, 51, 52, 19, 20, 21, 22, 23, 24, 25, 53, 54, 55, 56, 57, 58, 59, 60, 61, 62, 63, 64, 65, 66, 67, 68, 69, 70, 71, 72, 73, 74, 75, 76, 77, 78, 79, 80, 81, 82, 83, 84, 85, 86, 87, 88, 89, 118, 119, 120, 121, 122, 123, 124] (by decide +kernel) (by decide +kernel)
set_option maxRecDepth 20000 in
theorem gX2_readEnd_X2_isText : GoodIn wsX2_readEnd (wsV RX2 37 RX2 yX2_isText wsX2_isText) := goodIn_app (goodIn_of _ (by decide +kernel)) ggX2_readEnd_X2_isText
set_option maxRecDepth 20000 in
theorem ggX2_readEnd_X2_passIf : GoodIn wsX2_readEnd wsX2_passIf := goodIn_r _ [93, 2, 3, 4, 5, 6, 7, 8, 9, 10, 11, 12, 13, 14, 1, 15, 16, 17, 18, 19, 20, 21, 22, 23, 24, 25, 26, 27, 28, 118, 119, 120, 121, 122, 123, 124] (by decide +kernel) (by decide +kernel)
set_option maxRecDepth 20000 in
theorem gX2_readEnd_X2_passIf : GoodIn wsX2_readEnd (wsV RX2 63 RX2 yX2_passIf wsX2_passIf) := goodIn_app (goodIn_of _ (by decide +kernel)) ggX2_readEnd_X2_passIf
set_option maxRecDepth 20000 in
theorem ggX2_readEnd_X2_endMarkHere : GoodIn wsX2_readEnd wsX2_endMarkHere := goodIn_r _ [97, 37, 38, 39, 6, 40, 1, 13, 8, 14, 41, 42, 43, 44, 45, 46, 47, 48, 49, 50, 51, 52, 19, 20, 21, 22, 23, 24, 25, 53, 54, 55, 56, 57, 58, 59, 60, 61, 62, 63, 64, 65, 66, 67, 68, 69, 70, 71, 72, 73, 74, 75, 76, 77, 78, 79, 80, 81, 82, 83, 84, 85, 86, 87, 88, 89, 118, 119, 120, 121, 122, 123, 124] (by decide +kernel) (by decide +kernel)
set_option maxRecDepth 20000 in
theorem gX2_readEnd_X2_endMarkHere : GoodIn wsX2_readEnd (wsV RX2 84 RX2 yX2_endMarkHere wsX2_endMarkHere) := goodIn_app (goodIn_of _ (by decide +kernel)) ggX2_readEnd_X2_endMarkHere
set_option maxRecDepth 20000 in
theorem ggX2_readEnd_X1_addEnd : GoodIn wsX2_readEnd wsX1_addEnd := goodIn_r _ [102, 103, 104, 105, 106, 107, 108, 109, 110, 111, 112, 113, 114, 115, 116, 117] (by decide +kernel) (by decide +kernel)
set_option maxRecDepth 20000 in
theorem gX2_readEnd_X1_addEnd : GoodIn wsX2_readEnd (wsV RX2 87 RX1 yX1_addEnd wsX1_addEnd) := goodIn_app (goodIn_of _ (by decide +kernel)) ggX2_readEnd_X1_addEnd
theorem dX2_readEnd_0 : decode cX2_readEnd 0 = .ok (.aload_n 1, 1) := by decide +kernel
theorem dX2_readEnd_1 : decode cX2_readEnd 1 = .ok (.getfield 81, 3) := by decide +kernel
theorem dX2_readEnd_4 : decode cX2_readEnd 4 = .ok (.bipush 10, 2) := by decide +kernel
theorem dX2_readEnd_6 : decode cX2_readEnd 6 = .ok (.if_icmp .lt 9, 3) := by decide +kernel
theorem dX2_readEnd_9 : decode cX2_readEnd 9 = .ok (.aload_n 0, 1) := by decide +kernel
theorem dX2_readEnd_10 : decode cX2_readEnd 10 = .ok (.iconst 5, 1) := by decide +kernel
theorem dX2_readEnd_11 : decode cX2_readEnd 11 = .ok (.invokevirtual 50, 3) := by decide +kernel
theorem dX2_readEnd_14 : decode cX2_readEnd 14 = .ok (.return_, 1) := by decide +kernel
theorem dX2_readEnd_15 : decode cX2_readEnd 15 = .ok (.aload_n 0, 1) := by decide +kernel
theorem dX2_readEnd_16 : decode cX2_readEnd 16 = .ok (.invokevirtual 27, 3) := by decide +kernel
theorem dX2_readEnd_19 : decode cX2_readEnd 19 = .ok (.aload_n 0, 1) := by decide +kernel
theorem dX2_readEnd_20 : decode cX2_readEnd 20 = .ok (.bipush 9, 2) := by decide +kernel
theorem dX2_readEnd_22 : decode cX2_readEnd 22 = .ok (.invokevirtual 57, 3) := by decide +kernel
theorem dX2_readEnd_25 : decode cX2_readEnd 25 = .ok (.istore_n 2, 1) := by decide +kernel
theorem dX2_readEnd_26 : decode cX2_readEnd 26 = .ok (.aload_n 0, 1) := by decide +kernel
theorem dX2_readEnd_27 : decode cX2_readEnd 27 = .ok (.aload_n 0, 1) := by decide +kernel
theorem dX2_readEnd_28 : decode cX2_readEnd 28 = .ok (.ldc 69, 2) := by decide +kernel
theorem dX2_readEnd_30 : decode cX2_readEnd 30 = .ok (.invokevirtual 37, 3) := by decide +kernel
theorem dX2_readEnd_33 : decode cX2_readEnd 33 = .ok (.invokevirtual 63, 3) := by decide +kernel
theorem dX2_readEnd_36 : decode cX2_readEnd 36 = .ok (.aload_n 0, 1) := by decide +kernel
theorem dX2_readEnd_37 : decode cX2_readEnd 37 = .ok (.sipush 999, 3) := by decide +kernel
theorem dX2_readEnd_40 : decode cX2_readEnd 40 = .ok (.invokevirtual 57, 3) := by decide +kernel
theorem dX2_readEnd_43 : decode cX2_readEnd 43 = .ok (.istore_n 3, 1) := by decide +kernel
theorem dX2_readEnd_44 : decode cX2_readEnd 44 = .ok (.aload_n 0, 1) := by decide +kernel
theorem dX2_readEnd_45 : decode cX2_readEnd 45 = .ok (.aload_n 0, 1) := by decide +kernel
theorem dX2_readEnd_46 : decode cX2_readEnd 46 = .ok (.ldc 71, 2) := by decide +kernel
theorem dX2_readEnd_48 : decode cX2_readEnd 48 = .ok (.invokevirtual 37, 3) := by decide +kernel
theorem dX2_readEnd_51 : decode cX2_readEnd 51 = .ok (.invokevirtual 63, 3) := by decide +kernel
theorem dX2_readEnd_54 : decode cX2_readEnd 54 = .ok (.aload_n 0, 1) := by decide +kernel
theorem dX2_readEnd_55 : decode cX2_readEnd 55 = .ok (.invokevirtual 84, 3) := by decide +kernel
theorem dX2_readEnd_58 : decode cX2_readEnd 58 = .ok (.istore 4, 2) := by decide +kernel
theorem dX2_readEnd_60 : decode cX2_readEnd 60 = .ok (.aload_n 0, 1) := by decide +kernel
theorem dX2_readEnd_61 : decode cX2_readEnd 61 = .ok (.iload 4, 2) := by decide +kernel
theorem dX2_readEnd_63 : decode cX2_readEnd 63 = .ok (.ifCond .eq 7, 3) := by decide +kernel
theorem dX2_readEnd_66 : decode cX2_readEnd 66 = .ok (.iconst 1, 1) := by decide +kernel
theorem dX2_readEnd_67 : decode cX2_readEnd 67 = .ok (.goto 4, 3) := by decide +kernel
theorem dX2_readEnd_70 : decode cX2_readEnd 70 = .ok (.iconst 0, 1) := by decide +kernel
theorem dX2_readEnd_71 : decode cX2_readEnd 71 = .ok (.invokevirtual 63, 3) := by decide +kernel
theorem dX2_readEnd_74 : decode cX2_readEnd 74 = .ok (.aload_n 0, 1) := by decide +kernel
theorem dX2_readEnd_75 : decode cX2_readEnd 75 = .ok (.aload_n 0, 1) := by decide +kernel
theorem dX2_readEnd_76 : decode cX2_readEnd 76 = .ok (.getfield 32, 3) := by decide +kernel
theorem dX2_readEnd_79 : decode cX2_readEnd 79 = .ok (.iconst 4, 1) := by decide +kernel
theorem dX2_readEnd_80 : decode cX2_readEnd 80 = .ok (.if_icmp .ne 7, 3) := by decide +kernel
theorem dX2_readEnd_83 : decode cX2_readEnd 83 = .ok (.iconst 1, 1) := by decide +kernel
theorem dX2_readEnd_84 : decode cX2_readEnd 84 = .ok (.goto 4, 3) := by decide +kernel
theorem dX2_readEnd_87 : decode cX2_readEnd 87 = .ok (.iconst 0, 1) := by decide +kernel
theorem dX2_readEnd_88 : decode cX2_readEnd 88 = .ok (.invokevirtual 63, 3) := by decide +kernel
theorem dX2_readEnd_91 : decode cX2_readEnd 91 = .ok (.aload_n 0, 1) := by decide +kernel
theorem dX2_readEnd_92 : decode cX2_readEnd 92 = .ok (.getfield 20, 3) := by decide +kernel
theorem dX2_readEnd_95 : decode cX2_readEnd 95 = .ok (.ifCond .ne 11, 3) := by decide +kernel
theorem dX2_readEnd_98 : decode cX2_readEnd 98 = .ok (.aload_n 1, 1) := by decide +kernel
theorem dX2_readEnd_99 : decode cX2_readEnd 99 = .ok (.iload_n 2, 1) := by decide +kernel
theorem dX2_readEnd_100 : decode cX2_readEnd 100 = .ok (.iload_n 3, 1) := by decide +kernel
theorem dX2_readEnd_101 : decode cX2_readEnd 101 = .ok (.iload 4, 2) := by decide +kernel
theorem dX2_readEnd_103 : decode cX2_readEnd 103 = .ok (.invokevirtual 87, 3) := by decide +kernel
theorem dX2_readEnd_106 : decode cX2_readEnd 106 = .ok (.return_, 1) := by decide +kernel
set_option maxRecDepth 20000 in
theorem ggX2_goMarkHere_X2_isText : GoodIn wsX2_goMarkHere wsX2_isText := goodIn_r _ [5, 6, 7, 8, 9, 10, 11, 12, 13, 14, 15, 16, 17, 18, 19, 20, 21, 22, 23, 24, 25, 26, 27, 28, 29, 30, 31, 32, 33, 34, 35, 36, 37, 38, 39, 40, 41, 42, 43, 44, 45, 46, 47, 48, 49, 50, 51, 52, 53, 54, 55, 56, 57, 58, 59, 60, 61, 62, 63, 64, 65, 66, 67, 68, 69, 70, 71, 72] (by decide +kernel) (by decide +kernel)
set_option maxRecDepth 20000 in
theorem gX2_goMarkHere_X2_isText : GoodIn wsX2_goMarkHere (wsV RX2 37 RX2 yX2_isText wsX2_isText) := goodIn_app (goodIn_of _ (by decide +kernel)) ggX2_goMarkHere_X2_isText
theorem dX2_goMarkHere_0 : decode cX2_goMarkHere 0 = .ok (.aload_n 0, 1) := by decide +kernel
theorem dX2_goMarkHere_1 : decode cX2_goMarkHere 1 = .ok (.ldc 91, 2) := by decide +kernel
theorem dX2_goMarkHere_3 : decode cX2_goMarkHere 3 = .ok (.invokevirtual 37, 3) := by decide +kernel
theorem dX2_goMarkHere_6 : decode cX2_goMarkHere 6 = .ok (.ifCond .eq 7, 3) := by decide +kernel
theorem dX2_goMarkHere_9 : decode cX2_goMarkHere 9 = .ok (.iconst 1, 1) := by decide +kernel
theorem dX2_goMarkHere_10 : decode cX2_goMarkHere 10 = .ok (.goto 30, 3) := by decide +kernel
theorem dX2_goMarkHere_13 : decode cX2_goMarkHere 13 = .ok (.aload_n 0, 1) := by decide +kernel
theorem dX2_goMarkHere_14 : decode cX2_goMarkHere 14 = .ok (.ldc 93, 2) := by decide +kernel
theorem dX2_goMarkHere_16 : decode cX2_goMarkHere 16 = .ok (.invokevirtual 37, 3) := by decide +kernel
theorem dX2_goMarkHere_19 : decode cX2_goMarkHere 19 = .ok (.ifCond .eq 7, 3) := by decide +kernel
theorem dX2_goMarkHere_22 : decode cX2_goMarkHere 22 = .ok (.iconst 2, 1) := by decide +kernel
theorem dX2_goMarkHere_23 : decode cX2_goMarkHere 23 = .ok (.goto 17, 3) := by decide +kernel
theorem dX2_goMarkHere_26 : decode cX2_goMarkHere 26 = .ok (.aload_n 0, 1) := by decide +kernel
theorem dX2_goMarkHere_27 : decode cX2_goMarkHere 27 = .ok (.ldc 95, 2) := by decide +kernel
theorem dX2_goMarkHere_29 : decode cX2_goMarkHere 29 = .ok (.invokevirtual 37, 3) := by decide +kernel
theorem dX2_goMarkHere_32 : decode cX2_goMarkHere 32 = .ok (.ifCond .eq 7, 3) := by decide +kernel
theorem dX2_goMarkHere_35 : decode cX2_goMarkHere 35 = .ok (.iconst 3, 1) := by decide +kernel
theorem dX2_goMarkHere_36 : decode cX2_goMarkHere 36 = .ok (.goto 4, 3) := by decide +kernel
theorem dX2_goMarkHere_39 : decode cX2_goMarkHere 39 = .ok (.iconst 0, 1) := by decide +kernel
theorem dX2_goMarkHere_40 : decode cX2_goMarkHere 40 = .ok (.ireturn, 1) := by decide +kernel
set_option maxRecDepth 20000 in
theorem ggX2_endMarkHere_X2_isText : GoodIn wsX2_endMarkHere wsX2_isText := goodIn_r _ [5, 6, 7, 8, 9, 10, 11, 12, 13, 14, 15, 16, 17, 18, 19, 20, 21, 22, 23, 24, 25, 26, 27, 28, 29, 30, 31, 32, 33, 34, 35, 36, 37, 38, 39, 40, 41, 42, 43, 44, 45, 46, 47, 48, 49, 50, 51, 52, 53, 54, 55, 56, 57, 58, 59, 60, 61, 62, 63, 64, 65, 66, 67, 68, 69, 70, 71, 72] (by decide +kernel) (by decide +kernel)
set_option maxRecDepth 20000 in
theorem gX2_endMarkHere_X2_isText : GoodIn wsX2_endMarkHere (wsV RX2 37 RX2 yX2_isText wsX2_isText) := goodIn_app (goodIn_of _ (by decide +kernel)) ggX2_endMarkHere_X2_isText
theorem dX2_endMarkHere_0 : decode cX2_endMarkHere 0 = .ok (.aload_n 0, 1) := by decide +kernel
theorem dX2_endMarkHere_1 : decode cX2_endMarkHere 1 = .ok (.ldc 97, 2) := by decide +kernel
theorem dX2_endMarkHere_3 : decode cX2_endMarkHere 3 = .ok (.invokevirtual 37, 3) := by decide +kernel
theorem dX2_endMarkHere_6 : decode cX2_endMarkHere 6 = .ok (.ifCond .eq 7, 3) := by decide +kernel
theorem dX2_endMarkHere_9 : decode cX2_endMarkHere 9 = .ok (.iconst 4, 1) := by decide +kernel
theorem dX2_endMarkHere_10 : decode cX2_endMarkHere 10 = .ok (.goto 31, 3) := by decide +kernel
theorem dX2_endMarkHere_13 : decode cX2_endMarkHere 13 = .ok (.aload_n 0, 1) := by decide +kernel
theorem dX2_endMarkHere_14 : decode cX2_endMarkHere 14 = .ok (.ldc 99, 2) := by decide +kernel
theorem dX2_endMarkHere_16 : decode cX2_endMarkHere 16 = .ok (.invokevirtual 37, 3) := by decide +kernel
theorem dX2_endMarkHere_19 : decode cX2_endMarkHere 19 = .ok (.ifCond .eq 7, 3) := by decide +kernel
theorem dX2_endMarkHere_22 : decode cX2_endMarkHere 22 = .ok (.iconst 5, 1) := by decide +kernel
theorem dX2_endMarkHere_23 : decode cX2_endMarkHere 23 = .ok (.goto 18, 3) := by decide +kernel
theorem dX2_endMarkHere_26 : decode cX2_endMarkHere 26 = .ok (.aload_n 0, 1) := by decide +kernel
theorem dX2_endMarkHere_27 : decode cX2_endMarkHere 27 = .ok (.ldc 101, 2) := by decide +kernel
theorem dX2_endMarkHere_29 : decode cX2_endMarkHere 29 = .ok (.invokevirtual 37, 3) := by decide +kernel
theorem dX2_endMarkHere_32 : decode cX2_endMarkHere 32 = .ok (.ifCond .eq 8, 3) := by decide +kernel
theorem dX2_endMarkHere_35 : decode cX2_endMarkHere 35 = .ok (.bipush 6, 2) := by decide +kernel
theorem dX2_endMarkHere_37 : decode cX2_endMarkHere 37 = .ok (.goto 4, 3) := by decide +kernel
theorem dX2_endMarkHere_40 : decode cX2_endMarkHere 40 = .ok (.iconst 0, 1) := by decide +kernel
theorem dX2_endMarkHere_41 : decode cX2_endMarkHere 41 = .ok (.ireturn, 1) := by decide +kernel
set_option maxRecDepth 20000 in
theorem ggX2_readNumber_X2_numberHere : GoodIn wsX2_readNumber wsX2_numberHere := goodIn_r _ [7, 8, 9, 10, 11, 12, 13, 14, 15, 16, 17, 33, 34, 35, 36, 37, 38, 39] (by decide +kernel) (by decide +kernel)
set_option maxRecDepth 20000 in
theorem gX2_readNumber_X2_numberHere : GoodIn wsX2_readNumber (wsV RX2 103 RX2 yX2_numberHere wsX2_numberHere) := goodIn_app (goodIn_of _ (by decide +kernel)) ggX2_readNumber_X2_numberHere
set_option maxRecDepth 20000 in
theorem ggX2_readNumber_X2_refuse : GoodIn wsX2_readNumber wsX2_refuse := goodIn_r _ [21, 2, 8, 33, 34, 35, 36, 37] (by decide +kernel) (by decide +kernel)
set_option maxRecDepth 20000 in
theorem gX2_readNumber_X2_refuse : GoodIn wsX2_readNumber (wsV RX2 50 RX2 yX2_refuse wsX2_refuse) := goodIn_app (goodIn_of _ (by decide +kernel)) ggX2_readNumber_X2_refuse
set_option maxRecDepth 20000 in
theorem ggX2_readNumber_X2_advance : GoodIn wsX2_readNumber wsX2_advance := goodIn_r _ [25, 9, 8, 10, 1, 26, 27, 28, 6, 29, 11, 12, 13, 14, 15, 16, 17, 30, 31, 32, 33, 34, 35, 36, 37, 38, 39] (by decide +kernel) (by decide +kernel)
set_option maxRecDepth 20000 in
theorem gX2_readNumber_X2_advance : GoodIn wsX2_readNumber (wsV RX2 27 RX2 yX2_advance wsX2_advance) := goodIn_app (goodIn_of _ (by decide +kernel)) ggX2_readNumber_X2_advance
theorem dX2_readNumber_0 : decode cX2_readNumber 0 = .ok (.aload_n 0, 1) := by decide +kernel
theorem dX2_readNumber_1 : decode cX2_readNumber 1 = .ok (.getfield 32, 3) := by decide +kernel
theorem dX2_readNumber_4 : decode cX2_readNumber 4 = .ok (.iconst 3, 1) := by decide +kernel
theorem dX2_readNumber_5 : decode cX2_readNumber 5 = .ok (.if_icmp .ne 10, 3) := by decide +kernel
theorem dX2_readNumber_8 : decode cX2_readNumber 8 = .ok (.aload_n 0, 1) := by decide +kernel
theorem dX2_readNumber_9 : decode cX2_readNumber 9 = .ok (.invokevirtual 103, 3) := by decide +kernel
theorem dX2_readNumber_12 : decode cX2_readNumber 12 = .ok (.goto 4, 3) := by decide +kernel
theorem dX2_readNumber_15 : decode cX2_readNumber 15 = .ok (.iconst 0, 1) := by decide +kernel
theorem dX2_readNumber_16 : decode cX2_readNumber 16 = .ok (.istore_n 2, 1) := by decide +kernel
theorem dX2_readNumber_17 : decode cX2_readNumber 17 = .ok (.aload_n 0, 1) := by decide +kernel
theorem dX2_readNumber_18 : decode cX2_readNumber 18 = .ok (.getfield 32, 3) := by decide +kernel
theorem dX2_readNumber_21 : decode cX2_readNumber 21 = .ok (.iconst 3, 1) := by decide +kernel
theorem dX2_readNumber_22 : decode cX2_readNumber 22 = .ok (.if_icmp .eq 11, 3) := by decide +kernel
theorem dX2_readNumber_25 : decode cX2_readNumber 25 = .ok (.aload_n 0, 1) := by decide +kernel
theorem dX2_readNumber_26 : decode cX2_readNumber 26 = .ok (.iconst 1, 1) := by decide +kernel
theorem dX2_readNumber_27 : decode cX2_readNumber 27 = .ok (.invokevirtual 50, 3) := by decide +kernel
theorem dX2_readNumber_30 : decode cX2_readNumber 30 = .ok (.goto 27, 3) := by decide +kernel
theorem dX2_readNumber_33 : decode cX2_readNumber 33 = .ok (.iload_n 2, 1) := by decide +kernel
theorem dX2_readNumber_34 : decode cX2_readNumber 34 = .ok (.iload_n 1, 1) := by decide +kernel
theorem dX2_readNumber_35 : decode cX2_readNumber 35 = .ok (.if_icmp .le 11, 3) := by decide +kernel
theorem dX2_readNumber_38 : decode cX2_readNumber 38 = .ok (.aload_n 0, 1) := by decide +kernel
theorem dX2_readNumber_39 : decode cX2_readNumber 39 = .ok (.iconst 4, 1) := by decide +kernel
theorem dX2_readNumber_40 : decode cX2_readNumber 40 = .ok (.invokevirtual 50, 3) := by decide +kernel
theorem dX2_readNumber_43 : decode cX2_readNumber 43 = .ok (.goto 14, 3) := by decide +kernel
theorem dX2_readNumber_46 : decode cX2_readNumber 46 = .ok (.aload_n 0, 1) := by decide +kernel
theorem dX2_readNumber_47 : decode cX2_readNumber 47 = .ok (.getfield 20, 3) := by decide +kernel
theorem dX2_readNumber_50 : decode cX2_readNumber 50 = .ok (.ifCond .ne 7, 3) := by decide +kernel
theorem dX2_readNumber_53 : decode cX2_readNumber 53 = .ok (.aload_n 0, 1) := by decide +kernel
theorem dX2_readNumber_54 : decode cX2_readNumber 54 = .ok (.invokevirtual 27, 3) := by decide +kernel
theorem dX2_readNumber_57 : decode cX2_readNumber 57 = .ok (.iload_n 2, 1) := by decide +kernel
theorem dX2_readNumber_58 : decode cX2_readNumber 58 = .ok (.ireturn, 1) := by decide +kernel
set_option maxRecDepth 20000 in
theorem ggX2_passIf_X2_refuse : GoodIn wsX2_passIf wsX2_refuse := goodIn_r _ [6, 1, 7, 29, 30, 31, 32, 33] (by decide +kernel) (by decide +kernel)
set_option maxRecDepth 20000 in
theorem gX2_passIf_X2_refuse : GoodIn wsX2_passIf (wsV RX2 50 RX2 yX2_refuse wsX2_refuse) := goodIn_app (goodIn_of _ (by decide +kernel)) ggX2_passIf_X2_refuse
set_option maxRecDepth 20000 in
theorem ggX2_passIf_X2_advance : GoodIn wsX2_passIf wsX2_advance := goodIn_r _ [11, 12, 7, 13, 14, 15, 16, 17, 5, 18, 19, 20, 21, 22, 23, 24, 25, 26, 27, 28, 29, 30, 31, 32, 33, 34, 35] (by decide +kernel) (by decide +kernel)
set_option maxRecDepth 20000 in
theorem gX2_passIf_X2_advance : GoodIn wsX2_passIf (wsV RX2 27 RX2 yX2_advance wsX2_advance) := goodIn_app (goodIn_of _ (by decide +kernel)) ggX2_passIf_X2_advance
theorem dX2_passIf_0 : decode cX2_passIf 0 = .ok (.iload_n 1, 1) := by decide +kernel
theorem dX2_passIf_1 : decode cX2_passIf 1 = .ok (.ifCond .ne 11, 3) := by decide +kernel
theorem dX2_passIf_4 : decode cX2_passIf 4 = .ok (.aload_n 0, 1) := by decide +kernel
theorem dX2_passIf_5 : decode cX2_passIf 5 = .ok (.iconst 1, 1) := by decide +kernel
theorem dX2_passIf_6 : decode cX2_passIf 6 = .ok (.invokevirtual 50, 3) := by decide +kernel
theorem dX2_passIf_9 : decode cX2_passIf 9 = .ok (.goto 14, 3) := by decide +kernel
theorem dX2_passIf_12 : decode cX2_passIf 12 = .ok (.aload_n 0, 1) := by decide +kernel
theorem dX2_passIf_13 : decode cX2_passIf 13 = .ok (.getfield 20, 3) := by decide +kernel
theorem dX2_passIf_16 : decode cX2_passIf 16 = .ok (.ifCond .ne 7, 3) := by decide +kernel
theorem dX2_passIf_19 : decode cX2_passIf 19 = .ok (.aload_n 0, 1) := by decide +kernel
theorem dX2_passIf_20 : decode cX2_passIf 20 = .ok (.invokevirtual 27, 3) := by decide +kernel
theorem dX2_passIf_23 : decode cX2_passIf 23 = .ok (.return_, 1) := by decide +kernel
theorem dX2_refuse_0 : decode cX2_refuse 0 = .ok (.aload_n 0, 1) := by decide +kernel
theorem dX2_refuse_1 : decode cX2_refuse 1 = .ok (.getfield 20, 3) := by decide +kernel
theorem dX2_refuse_4 : decode cX2_refuse 4 = .ok (.ifCond .ne 16, 3) := by decide +kernel
theorem dX2_refuse_7 : decode cX2_refuse 7 = .ok (.aload_n 0, 1) := by decide +kernel
theorem dX2_refuse_8 : decode cX2_refuse 8 = .ok (.iload_n 1, 1) := by decide +kernel
theorem dX2_refuse_9 : decode cX2_refuse 9 = .ok (.bipush 16, 2) := by decide +kernel
theorem dX2_refuse_11 : decode cX2_refuse 11 = .ok (.aload_n 0, 1) := by decide +kernel
theorem dX2_refuse_12 : decode cX2_refuse 12 = .ok (.getfield 106, 3) := by decide +kernel
theorem dX2_refuse_15 : decode cX2_refuse 15 = .ok (.imul, 1) := by decide +kernel
theorem dX2_refuse_16 : decode cX2_refuse 16 = .ok (.iadd, 1) := by decide +kernel
theorem dX2_refuse_17 : decode cX2_refuse 17 = .ok (.putfield 20, 3) := by decide +kernel
theorem dX2_refuse_20 : decode cX2_refuse 20 = .ok (.return_, 1) := by decide +kernel
set_option maxRecDepth 20000 in
theorem ggX2_advance_X2_runEnd : GoodIn wsX2_advance wsX2_runEnd := goodIn_r _ [9, 3, 10, 11, 12, 13, 14, 15, 16, 17, 18, 8, 19, 20, 21, 22, 23, 24, 25, 26] (by decide +kernel) (by decide +kernel)
set_option maxRecDepth 20000 in
theorem gX2_advance_X2_runEnd : GoodIn wsX2_advance (wsV RX2 109 RX2 yX2_runEnd wsX2_runEnd) := goodIn_app (goodIn_of _ (by decide +kernel)) ggX2_advance_X2_runEnd
set_option maxRecDepth 20000 in
theorem ggX2_advance_X3_signAt : GoodIn wsX2_advance wsX3_signAt := goodIn_r _ [14, 15, 16, 25, 26] (by decide +kernel) (by decide +kernel)
set_option maxRecDepth 20000 in
theorem gX2_advance_X3_signAt : GoodIn wsX2_advance (wsV RX2 113 RX3 yX3_signAt wsX3_signAt) := goodIn_app (goodIn_of _ (by decide +kernel)) ggX2_advance_X3_signAt
set_option maxRecDepth 20000 in
theorem ggX2_advance_X2_sortOf : GoodIn wsX2_advance wsX2_sortOf := goodIn_r _ [19] (by decide +kernel) (by decide +kernel)
set_option maxRecDepth 20000 in
theorem gX2_advance_X2_sortOf : GoodIn wsX2_advance (va_wsS RX2 116 yX2_sortOf wsX2_sortOf) := goodIn_app (goodIn_of _ (by decide +kernel)) ggX2_advance_X2_sortOf
theorem dX2_advance_0 : decode cX2_advance 0 = .ok (.aload_n 0, 1) := by decide +kernel
theorem dX2_advance_1 : decode cX2_advance 1 = .ok (.aload_n 0, 1) := by decide +kernel
theorem dX2_advance_2 : decode cX2_advance 2 = .ok (.aload_n 0, 1) := by decide +kernel
theorem dX2_advance_3 : decode cX2_advance 3 = .ok (.getfield 24, 3) := by decide +kernel
theorem dX2_advance_6 : decode cX2_advance 6 = .ok (.iconst 1, 1) := by decide +kernel
theorem dX2_advance_7 : decode cX2_advance 7 = .ok (.invokevirtual 109, 3) := by decide +kernel
theorem dX2_advance_10 : decode cX2_advance 10 = .ok (.putfield 106, 3) := by decide +kernel
theorem dX2_advance_13 : decode cX2_advance 13 = .ok (.aload_n 0, 1) := by decide +kernel
theorem dX2_advance_14 : decode cX2_advance 14 = .ok (.aload_n 0, 1) := by decide +kernel
theorem dX2_advance_15 : decode cX2_advance 15 = .ok (.getfield 9, 3) := by decide +kernel
theorem dX2_advance_18 : decode cX2_advance 18 = .ok (.aload_n 0, 1) := by decide +kernel
theorem dX2_advance_19 : decode cX2_advance 19 = .ok (.getfield 106, 3) := by decide +kernel
theorem dX2_advance_22 : decode cX2_advance 22 = .ok (.invokevirtual 113, 3) := by decide +kernel
theorem dX2_advance_25 : decode cX2_advance 25 = .ok (.invokestatic 116, 3) := by decide +kernel
theorem dX2_advance_28 : decode cX2_advance 28 = .ok (.putfield 32, 3) := by decide +kernel
theorem dX2_advance_31 : decode cX2_advance 31 = .ok (.aload_n 0, 1) := by decide +kernel
theorem dX2_advance_32 : decode cX2_advance 32 = .ok (.getfield 32, 3) := by decide +kernel
theorem dX2_advance_35 : decode cX2_advance 35 = .ok (.iconst 2, 1) := by decide +kernel
theorem dX2_advance_36 : decode cX2_advance 36 = .ok (.if_icmp .eq 11, 3) := by decide +kernel
theorem dX2_advance_39 : decode cX2_advance 39 = .ok (.aload_n 0, 1) := by decide +kernel
theorem dX2_advance_40 : decode cX2_advance 40 = .ok (.getfield 32, 3) := by decide +kernel
theorem dX2_advance_43 : decode cX2_advance 43 = .ok (.iconst 3, 1) := by decide +kernel
theorem dX2_advance_44 : decode cX2_advance 44 = .ok (.if_icmp .ne 55, 3) := by decide +kernel
theorem dX2_advance_47 : decode cX2_advance 47 = .ok (.aload_n 0, 1) := by decide +kernel
theorem dX2_advance_48 : decode cX2_advance 48 = .ok (.aload_n 0, 1) := by decide +kernel
theorem dX2_advance_49 : decode cX2_advance 49 = .ok (.aload_n 0, 1) := by decide +kernel
theorem dX2_advance_50 : decode cX2_advance 50 = .ok (.getfield 106, 3) := by decide +kernel
theorem dX2_advance_53 : decode cX2_advance 53 = .ok (.aload_n 0, 1) := by decide +kernel
theorem dX2_advance_54 : decode cX2_advance 54 = .ok (.getfield 32, 3) := by decide +kernel
theorem dX2_advance_57 : decode cX2_advance 57 = .ok (.invokevirtual 109, 3) := by decide +kernel
theorem dX2_advance_60 : decode cX2_advance 60 = .ok (.putfield 24, 3) := by decide +kernel
theorem dX2_advance_63 : decode cX2_advance 63 = .ok (.aload_n 0, 1) := by decide +kernel
theorem dX2_advance_64 : decode cX2_advance 64 = .ok (.getfield 32, 3) := by decide +kernel
theorem dX2_advance_67 : decode cX2_advance 67 = .ok (.iconst 2, 1) := by decide +kernel
theorem dX2_advance_68 : decode cX2_advance 68 = .ok (.if_icmp .ne 8, 3) := by decide +kernel
theorem dX2_advance_71 : decode cX2_advance 71 = .ok (.bipush 8, 2) := by decide +kernel
theorem dX2_advance_73 : decode cX2_advance 73 = .ok (.goto 4, 3) := by decide +kernel
theorem dX2_advance_76 : decode cX2_advance 76 = .ok (.iconst 4, 1) := by decide +kernel
theorem dX2_advance_77 : decode cX2_advance 77 = .ok (.istore_n 1, 1) := by decide +kernel
theorem dX2_advance_78 : decode cX2_advance 78 = .ok (.aload_n 0, 1) := by decide +kernel
theorem dX2_advance_79 : decode cX2_advance 79 = .ok (.getfield 24, 3) := by decide +kernel
theorem dX2_advance_82 : decode cX2_advance 82 = .ok (.aload_n 0, 1) := by decide +kernel
theorem dX2_advance_83 : decode cX2_advance 83 = .ok (.getfield 106, 3) := by decide +kernel
theorem dX2_advance_86 : decode cX2_advance 86 = .ok (.isub, 1) := by decide +kernel
theorem dX2_advance_87 : decode cX2_advance 87 = .ok (.iload_n 1, 1) := by decide +kernel
theorem dX2_advance_88 : decode cX2_advance 88 = .ok (.if_icmp .le 8, 3) := by decide +kernel
theorem dX2_advance_91 : decode cX2_advance 91 = .ok (.aload_n 0, 1) := by decide +kernel
theorem dX2_advance_92 : decode cX2_advance 92 = .ok (.iconst 5, 1) := by decide +kernel
theorem dX2_advance_93 : decode cX2_advance 93 = .ok (.putfield 32, 3) := by decide +kernel
theorem dX2_advance_96 : decode cX2_advance 96 = .ok (.goto 27, 3) := by decide +kernel
theorem dX2_advance_99 : decode cX2_advance 99 = .ok (.aload_n 0, 1) := by decide +kernel
theorem dX2_advance_100 : decode cX2_advance 100 = .ok (.aload_n 0, 1) := by decide +kernel
theorem dX2_advance_101 : decode cX2_advance 101 = .ok (.getfield 32, 3) := by decide +kernel
theorem dX2_advance_104 : decode cX2_advance 104 = .ok (.ifCond .ne 10, 3) := by decide +kernel
theorem dX2_advance_107 : decode cX2_advance 107 = .ok (.aload_n 0, 1) := by decide +kernel
theorem dX2_advance_108 : decode cX2_advance 108 = .ok (.getfield 106, 3) := by decide +kernel
theorem dX2_advance_111 : decode cX2_advance 111 = .ok (.goto 9, 3) := by decide +kernel
theorem dX2_advance_114 : decode cX2_advance 114 = .ok (.aload_n 0, 1) := by decide +kernel
theorem dX2_advance_115 : decode cX2_advance 115 = .ok (.getfield 106, 3) := by decide +kernel
theorem dX2_advance_118 : decode cX2_advance 118 = .ok (.iconst 1, 1) := by decide +kernel
theorem dX2_advance_119 : decode cX2_advance 119 = .ok (.iadd, 1) := by decide +kernel
theorem dX2_advance_120 : decode cX2_advance 120 = .ok (.putfield 24, 3) := by decide +kernel
theorem dX2_advance_123 : decode cX2_advance 123 = .ok (.return_, 1) := by decide +kernel
set_option maxRecDepth 20000 in
theorem ggX2_runEnd_X3_signAt : GoodIn wsX2_runEnd wsX3_signAt := goodIn_r _ [6, 7, 8, 18, 19] (by decide +kernel) (by decide +kernel)
set_option maxRecDepth 20000 in
theorem gX2_runEnd_X3_signAt : GoodIn wsX2_runEnd (wsV RX2 113 RX3 yX3_signAt wsX3_signAt) := goodIn_app (goodIn_of _ (by decide +kernel)) ggX2_runEnd_X3_signAt
set_option maxRecDepth 20000 in
theorem ggX2_runEnd_X2_sortOf : GoodIn wsX2_runEnd wsX2_sortOf := goodIn_r _ [12] (by decide +kernel) (by decide +kernel)
set_option maxRecDepth 20000 in
theorem gX2_runEnd_X2_sortOf : GoodIn wsX2_runEnd (va_wsS RX2 116 yX2_sortOf wsX2_sortOf) := goodIn_app (goodIn_of _ (by decide +kernel)) ggX2_runEnd_X2_sortOf
theorem dX2_runEnd_0 : decode cX2_runEnd 0 = .ok (.iload_n 1, 1) := by decide +kernel
theorem dX2_runEnd_1 : decode cX2_runEnd 1 = .ok (.istore_n 3, 1) := by decide +kernel
theorem dX2_runEnd_2 : decode cX2_runEnd 2 = .ok (.iload_n 3, 1) := by decide +kernel
theorem dX2_runEnd_3 : decode cX2_runEnd 3 = .ok (.aload_n 0, 1) := by decide +kernel
theorem dX2_runEnd_4 : decode cX2_runEnd 4 = .ok (.getfield 9, 3) := by decide +kernel
theorem dX2_runEnd_7 : decode cX2_runEnd 7 = .ok (.getfield 119, 3) := by decide +kernel
theorem dX2_runEnd_10 : decode cX2_runEnd 10 = .ok (.if_icmp .ge 26, 3) := by decide +kernel
theorem dX2_runEnd_13 : decode cX2_runEnd 13 = .ok (.aload_n 0, 1) := by decide +kernel
theorem dX2_runEnd_14 : decode cX2_runEnd 14 = .ok (.getfield 9, 3) := by decide +kernel
theorem dX2_runEnd_17 : decode cX2_runEnd 17 = .ok (.iload_n 3, 1) := by decide +kernel
theorem dX2_runEnd_18 : decode cX2_runEnd 18 = .ok (.invokevirtual 113, 3) := by decide +kernel
theorem dX2_runEnd_21 : decode cX2_runEnd 21 = .ok (.invokestatic 116, 3) := by decide +kernel
theorem dX2_runEnd_24 : decode cX2_runEnd 24 = .ok (.iload_n 2, 1) := by decide +kernel
theorem dX2_runEnd_25 : decode cX2_runEnd 25 = .ok (.if_icmp .eq 5, 3) := by decide +kernel
theorem dX2_runEnd_28 : decode cX2_runEnd 28 = .ok (.iload_n 3, 1) := by decide +kernel
theorem dX2_runEnd_29 : decode cX2_runEnd 29 = .ok (.ireturn, 1) := by decide +kernel
theorem dX2_runEnd_30 : decode cX2_runEnd 30 = .ok (.iinc 3 1, 3) := by decide +kernel
theorem dX2_runEnd_33 : decode cX2_runEnd 33 = .ok (.goto (-31), 3) := by decide +kernel
theorem dX2_runEnd_36 : decode cX2_runEnd 36 = .ok (.aload_n 0, 1) := by decide +kernel
theorem dX2_runEnd_37 : decode cX2_runEnd 37 = .ok (.getfield 9, 3) := by decide +kernel
theorem dX2_runEnd_40 : decode cX2_runEnd 40 = .ok (.getfield 119, 3) := by decide +kernel
theorem dX2_runEnd_43 : decode cX2_runEnd 43 = .ok (.ireturn, 1) := by decide +kernel
set_option maxRecDepth 20000 in
theorem ggX2_isText_J0_length_8abf5 : GoodIn wsX2_isText wsJ0_length_8abf5 := goodIn_r _ [9, 10, 11, 12, 13, 8, 14, 15, 16] (by decide +kernel) (by decide +kernel)
set_option maxRecDepth 20000 in
theorem gX2_isText_J0_length_8abf5 : GoodIn wsX2_isText (wsV RX2 122 RJ0 yJ0_length_8abf5 wsJ0_length_8abf5) := goodIn_app (goodIn_of _ (by decide +kernel)) ggX2_isText_J0_length_8abf5
set_option maxRecDepth 20000 in
theorem ggX2_isText_X3_signAt : GoodIn wsX2_isText wsX3_signAt := goodIn_r _ [21, 22, 23, 66, 67] (by decide +kernel) (by decide +kernel)
set_option maxRecDepth 20000 in
theorem gX2_isText_X3_signAt : GoodIn wsX2_isText (wsV RX2 113 RX3 yX3_signAt wsX3_signAt) := goodIn_app (goodIn_of _ (by decide +kernel)) ggX2_isText_X3_signAt
set_option maxRecDepth 20000 in
theorem ggX2_isText_J0_charAt_5068e : GoodIn wsX2_isText wsJ0_charAt_5068e := goodIn_r _ [27, 10, 28, 29, 30, 8, 31, 15, 16, 32, 33, 34, 35, 36, 37, 38, 39, 40, 41, 42, 43, 44, 45, 46, 47, 48, 49, 50, 51, 52, 53, 54, 55, 56, 57, 58, 59, 60] (by decide +kernel) (by decide +kernel)
set_option maxRecDepth 20000 in
theorem gX2_isText_J0_charAt_5068e : GoodIn wsX2_isText (wsV RX2 126 RJ0 yJ0_charAt_5068e wsJ0_charAt_5068e) := goodIn_app (goodIn_of _ (by decide +kernel)) ggX2_isText_J0_charAt_5068e
theorem dX2_isText_0 : decode cX2_isText 0 = .ok (.aload_n 0, 1) := by decide +kernel
theorem dX2_isText_1 : decode cX2_isText 1 = .ok (.getfield 32, 3) := by decide +kernel
theorem dX2_isText_4 : decode cX2_isText 4 = .ok (.iconst 2, 1) := by decide +kernel
theorem dX2_isText_5 : decode cX2_isText 5 = .ok (.if_icmp .ne 19, 3) := by decide +kernel
theorem dX2_isText_8 : decode cX2_isText 8 = .ok (.aload_n 0, 1) := by decide +kernel
theorem dX2_isText_9 : decode cX2_isText 9 = .ok (.getfield 24, 3) := by decide +kernel
theorem dX2_isText_12 : decode cX2_isText 12 = .ok (.aload_n 0, 1) := by decide +kernel
theorem dX2_isText_13 : decode cX2_isText 13 = .ok (.getfield 106, 3) := by decide +kernel
theorem dX2_isText_16 : decode cX2_isText 16 = .ok (.isub, 1) := by decide +kernel
theorem dX2_isText_17 : decode cX2_isText 17 = .ok (.aload_n 1, 1) := by decide +kernel
theorem dX2_isText_18 : decode cX2_isText 18 = .ok (.invokevirtual 122, 3) := by decide +kernel
theorem dX2_isText_21 : decode cX2_isText 21 = .ok (.if_icmp .eq 5, 3) := by decide +kernel
theorem dX2_isText_24 : decode cX2_isText 24 = .ok (.iconst 0, 1) := by decide +kernel
theorem dX2_isText_25 : decode cX2_isText 25 = .ok (.ireturn, 1) := by decide +kernel
theorem dX2_isText_26 : decode cX2_isText 26 = .ok (.iconst 0, 1) := by decide +kernel
theorem dX2_isText_27 : decode cX2_isText 27 = .ok (.istore_n 2, 1) := by decide +kernel
theorem dX2_isText_28 : decode cX2_isText 28 = .ok (.iload_n 2, 1) := by decide +kernel
theorem dX2_isText_29 : decode cX2_isText 29 = .ok (.aload_n 1, 1) := by decide +kernel
theorem dX2_isText_30 : decode cX2_isText 30 = .ok (.invokevirtual 122, 3) := by decide +kernel
theorem dX2_isText_33 : decode cX2_isText 33 = .ok (.if_icmp .ge 32, 3) := by decide +kernel
theorem dX2_isText_36 : decode cX2_isText 36 = .ok (.aload_n 0, 1) := by decide +kernel
theorem dX2_isText_37 : decode cX2_isText 37 = .ok (.getfield 9, 3) := by decide +kernel
theorem dX2_isText_40 : decode cX2_isText 40 = .ok (.aload_n 0, 1) := by decide +kernel
theorem dX2_isText_41 : decode cX2_isText 41 = .ok (.getfield 106, 3) := by decide +kernel
theorem dX2_isText_44 : decode cX2_isText 44 = .ok (.iload_n 2, 1) := by decide +kernel
theorem dX2_isText_45 : decode cX2_isText 45 = .ok (.iadd, 1) := by decide +kernel
theorem dX2_isText_46 : decode cX2_isText 46 = .ok (.invokevirtual 113, 3) := by decide +kernel
theorem dX2_isText_49 : decode cX2_isText 49 = .ok (.aload_n 1, 1) := by decide +kernel
theorem dX2_isText_50 : decode cX2_isText 50 = .ok (.iload_n 2, 1) := by decide +kernel
theorem dX2_isText_51 : decode cX2_isText 51 = .ok (.invokevirtual 126, 3) := by decide +kernel
theorem dX2_isText_54 : decode cX2_isText 54 = .ok (.if_icmp .eq 5, 3) := by decide +kernel
theorem dX2_isText_57 : decode cX2_isText 57 = .ok (.iconst 0, 1) := by decide +kernel
theorem dX2_isText_58 : decode cX2_isText 58 = .ok (.ireturn, 1) := by decide +kernel
theorem dX2_isText_59 : decode cX2_isText 59 = .ok (.iinc 2 1, 3) := by decide +kernel
theorem dX2_isText_62 : decode cX2_isText 62 = .ok (.goto (-34), 3) := by decide +kernel
theorem dX2_isText_65 : decode cX2_isText 65 = .ok (.iconst 1, 1) := by decide +kernel
theorem dX2_isText_66 : decode cX2_isText 66 = .ok (.ireturn, 1) := by decide +kernel
set_option maxRecDepth 20000 in
theorem ggX2_numberHere_X3_signAt : GoodIn wsX2_numberHere wsX3_signAt := goodIn_r _ [8, 9, 10, 16, 17] (by decide +kernel) (by decide +kernel)
set_option maxRecDepth 20000 in
theorem gX2_numberHere_X3_signAt : GoodIn wsX2_numberHere (wsV RX2 113 RX3 yX3_signAt wsX3_signAt) := goodIn_app (goodIn_of _ (by decide +kernel)) ggX2_numberHere_X3_signAt
theorem dX2_numberHere_0 : decode cX2_numberHere 0 = .ok (.iconst 0, 1) := by decide +kernel
theorem dX2_numberHere_1 : decode cX2_numberHere 1 = .ok (.istore_n 1, 1) := by decide +kernel
theorem dX2_numberHere_2 : decode cX2_numberHere 2 = .ok (.aload_n 0, 1) := by decide +kernel
theorem dX2_numberHere_3 : decode cX2_numberHere 3 = .ok (.getfield 106, 3) := by decide +kernel
theorem dX2_numberHere_6 : decode cX2_numberHere 6 = .ok (.istore_n 2, 1) := by decide +kernel
theorem dX2_numberHere_7 : decode cX2_numberHere 7 = .ok (.iload_n 2, 1) := by decide +kernel
theorem dX2_numberHere_8 : decode cX2_numberHere 8 = .ok (.aload_n 0, 1) := by decide +kernel
theorem dX2_numberHere_9 : decode cX2_numberHere 9 = .ok (.getfield 24, 3) := by decide +kernel
theorem dX2_numberHere_12 : decode cX2_numberHere 12 = .ok (.if_icmp .ge 26, 3) := by decide +kernel
theorem dX2_numberHere_15 : decode cX2_numberHere 15 = .ok (.iload_n 1, 1) := by decide +kernel
theorem dX2_numberHere_16 : decode cX2_numberHere 16 = .ok (.bipush 10, 2) := by decide +kernel
theorem dX2_numberHere_18 : decode cX2_numberHere 18 = .ok (.imul, 1) := by decide +kernel
theorem dX2_numberHere_19 : decode cX2_numberHere 19 = .ok (.aload_n 0, 1) := by decide +kernel
theorem dX2_numberHere_20 : decode cX2_numberHere 20 = .ok (.getfield 9, 3) := by decide +kernel
theorem dX2_numberHere_23 : decode cX2_numberHere 23 = .ok (.iload_n 2, 1) := by decide +kernel
theorem dX2_numberHere_24 : decode cX2_numberHere 24 = .ok (.invokevirtual 113, 3) := by decide +kernel
theorem dX2_numberHere_27 : decode cX2_numberHere 27 = .ok (.iadd, 1) := by decide +kernel
theorem dX2_numberHere_28 : decode cX2_numberHere 28 = .ok (.bipush 48, 2) := by decide +kernel
theorem dX2_numberHere_30 : decode cX2_numberHere 30 = .ok (.isub, 1) := by decide +kernel
theorem dX2_numberHere_31 : decode cX2_numberHere 31 = .ok (.istore_n 1, 1) := by decide +kernel
theorem dX2_numberHere_32 : decode cX2_numberHere 32 = .ok (.iinc 2 1, 3) := by decide +kernel
theorem dX2_numberHere_35 : decode cX2_numberHere 35 = .ok (.goto (-28), 3) := by decide +kernel
theorem dX2_numberHere_38 : decode cX2_numberHere 38 = .ok (.iload_n 1, 1) := by decide +kernel
theorem dX2_numberHere_39 : decode cX2_numberHere 39 = .ok (.ireturn, 1) := by decide +kernel
theorem dX2_sortOf_0 : decode cX2_sortOf 0 = .ok (.iload_n 0, 1) := by decide +kernel
theorem dX2_sortOf_1 : decode cX2_sortOf 1 = .ok (.iconst (-1), 1) := by decide +kernel
theorem dX2_sortOf_2 : decode cX2_sortOf 2 = .ok (.if_icmp .ne 5, 3) := by decide +kernel
theorem dX2_sortOf_5 : decode cX2_sortOf 5 = .ok (.iconst 0, 1) := by decide +kernel
theorem dX2_sortOf_6 : decode cX2_sortOf 6 = .ok (.ireturn, 1) := by decide +kernel
theorem dX2_sortOf_7 : decode cX2_sortOf 7 = .ok (.iload_n 0, 1) := by decide +kernel
theorem dX2_sortOf_8 : decode cX2_sortOf 8 = .ok (.bipush 10, 2) := by decide +kernel
theorem dX2_sortOf_10 : decode cX2_sortOf 10 = .ok (.if_icmp .eq 9, 3) := by decide +kernel
theorem dX2_sortOf_13 : decode cX2_sortOf 13 = .ok (.iload_n 0, 1) := by decide +kernel
theorem dX2_sortOf_14 : decode cX2_sortOf 14 = .ok (.bipush 32, 2) := by decide +kernel
theorem dX2_sortOf_16 : decode cX2_sortOf 16 = .ok (.if_icmp .ne 5, 3) := by decide +kernel
theorem dX2_sortOf_19 : decode cX2_sortOf 19 = .ok (.iconst 1, 1) := by decide +kernel
theorem dX2_sortOf_20 : decode cX2_sortOf 20 = .ok (.ireturn, 1) := by decide +kernel
theorem dX2_sortOf_21 : decode cX2_sortOf 21 = .ok (.iload_n 0, 1) := by decide +kernel
theorem dX2_sortOf_22 : decode cX2_sortOf 22 = .ok (.bipush 97, 2) := by decide +kernel
theorem dX2_sortOf_24 : decode cX2_sortOf 24 = .ok (.if_icmp .lt 11, 3) := by decide +kernel
theorem dX2_sortOf_27 : decode cX2_sortOf 27 = .ok (.iload_n 0, 1) := by decide +kernel
theorem dX2_sortOf_28 : decode cX2_sortOf 28 = .ok (.bipush 122, 2) := by decide +kernel
theorem dX2_sortOf_30 : decode cX2_sortOf 30 = .ok (.if_icmp .gt 5, 3) := by decide +kernel
theorem dX2_sortOf_33 : decode cX2_sortOf 33 = .ok (.iconst 2, 1) := by decide +kernel
theorem dX2_sortOf_34 : decode cX2_sortOf 34 = .ok (.ireturn, 1) := by decide +kernel
theorem dX2_sortOf_35 : decode cX2_sortOf 35 = .ok (.iload_n 0, 1) := by decide +kernel
theorem dX2_sortOf_36 : decode cX2_sortOf 36 = .ok (.bipush 48, 2) := by decide +kernel
theorem dX2_sortOf_38 : decode cX2_sortOf 38 = .ok (.if_icmp .lt 11, 3) := by decide +kernel
theorem dX2_sortOf_41 : decode cX2_sortOf 41 = .ok (.iload_n 0, 1) := by decide +kernel
theorem dX2_sortOf_42 : decode cX2_sortOf 42 = .ok (.bipush 57, 2) := by decide +kernel
theorem dX2_sortOf_44 : decode cX2_sortOf 44 = .ok (.if_icmp .gt 5, 3) := by decide +kernel
end
section
theorem dX2_sortOf_47 : decode cX2_sortOf 47 = .ok (.iconst 3, 1) := by decide +kernel
theorem dX2_sortOf_48 : decode cX2_sortOf 48 = .ok (.ireturn, 1) := by decide +kernel
theorem dX2_sortOf_49 : decode cX2_sortOf 49 = .ok (.iload_n 0, 1) := by decide +kernel
theorem dX2_sortOf_50 : decode cX2_sortOf 50 = .ok (.bipush 59, 2) := by decide +kernel
theorem dX2_sortOf_52 : decode cX2_sortOf 52 = .ok (.if_icmp .ne 7, 3) := by decide +kernel
theorem dX2_sortOf_55 : decode cX2_sortOf 55 = .ok (.iconst 4, 1) := by decide +kernel
theorem dX2_sortOf_56 : decode cX2_sortOf 56 = .ok (.goto 4, 3) := by decide +kernel
theorem dX2_sortOf_59 : decode cX2_sortOf 59 = .ok (.iconst 5, 1) := by decide +kernel
theorem dX2_sortOf_60 : decode cX2_sortOf 60 = .ok (.ireturn, 1) := by decide +kernel
theorem dX3_init_0 : decode cX3_init 0 = .ok (.aload_n 0, 1) := by decide +kernel
theorem dX3_init_1 : decode cX3_init 1 = .ok (.invokespecial 1, 3) := by decide +kernel
theorem dX3_init_4 : decode cX3_init 4 = .ok (.aload_n 0, 1) := by decide +kernel
theorem dX3_init_5 : decode cX3_init 5 = .ok (.sipush 1600, 3) := by decide +kernel
theorem dX3_init_8 : decode cX3_init 8 = .ok (.newarray .char, 2) := by decide +kernel
theorem dX3_init_10 : decode cX3_init 10 = .ok (.putfield 9, 3) := by decide +kernel
theorem dX3_init_13 : decode cX3_init 13 = .ok (.return_, 1) := by decide +kernel
set_option maxRecDepth 20000 in
theorem ggX3_addBytes_X3_addSign : GoodIn wsX3_addBytes wsX3_addSign := goodIn_r _ [5, 6, 7, 8, 9] (by decide +kernel) (by decide +kernel)
set_option maxRecDepth 20000 in
theorem gX3_addBytes_X3_addSign : GoodIn wsX3_addBytes (wsV RX3 13 RX3 yX3_addSign wsX3_addSign) := goodIn_app (goodIn_of _ (by decide +kernel)) ggX3_addBytes_X3_addSign
theorem dX3_addBytes_0 : decode cX3_addBytes 0 = .ok (.bipush 56, 2) := by decide +kernel
theorem dX3_addBytes_2 : decode cX3_addBytes 2 = .ok (.istore_n 3, 1) := by decide +kernel
theorem dX3_addBytes_3 : decode cX3_addBytes 3 = .ok (.iload_n 3, 1) := by decide +kernel
theorem dX3_addBytes_4 : decode cX3_addBytes 4 = .ok (.ifCond .lt 21, 3) := by decide +kernel
theorem dX3_addBytes_7 : decode cX3_addBytes 7 = .ok (.aload_n 0, 1) := by decide +kernel
theorem dX3_addBytes_8 : decode cX3_addBytes 8 = .ok (.lload_n 1, 1) := by decide +kernel
theorem dX3_addBytes_9 : decode cX3_addBytes 9 = .ok (.iload_n 3, 1) := by decide +kernel
theorem dX3_addBytes_10 : decode cX3_addBytes 10 = .ok (.lushr, 1) := by decide +kernel
theorem dX3_addBytes_11 : decode cX3_addBytes 11 = .ok (.l2i, 1) := by decide +kernel
theorem dX3_addBytes_12 : decode cX3_addBytes 12 = .ok (.sipush 255, 3) := by decide +kernel
theorem dX3_addBytes_15 : decode cX3_addBytes 15 = .ok (.iand, 1) := by decide +kernel
theorem dX3_addBytes_16 : decode cX3_addBytes 16 = .ok (.invokevirtual 13, 3) := by decide +kernel
theorem dX3_addBytes_19 : decode cX3_addBytes 19 = .ok (.iinc 3 (-8), 3) := by decide +kernel
theorem dX3_addBytes_22 : decode cX3_addBytes 22 = .ok (.goto (-19), 3) := by decide +kernel
theorem dX3_addBytes_25 : decode cX3_addBytes 25 = .ok (.return_, 1) := by decide +kernel
theorem dX3_addSign_0 : decode cX3_addSign 0 = .ok (.iload_n 1, 1) := by decide +kernel
theorem dX3_addSign_1 : decode cX3_addSign 1 = .ok (.bipush 10, 2) := by decide +kernel
theorem dX3_addSign_3 : decode cX3_addSign 3 = .ok (.if_icmp .eq 15, 3) := by decide +kernel
theorem dX3_addSign_6 : decode cX3_addSign 6 = .ok (.iload_n 1, 1) := by decide +kernel
theorem dX3_addSign_7 : decode cX3_addSign 7 = .ok (.bipush 32, 2) := by decide +kernel
theorem dX3_addSign_9 : decode cX3_addSign 9 = .ok (.if_icmp .lt 13, 3) := by decide +kernel
theorem dX3_addSign_12 : decode cX3_addSign 12 = .ok (.iload_n 1, 1) := by decide +kernel
theorem dX3_addSign_13 : decode cX3_addSign 13 = .ok (.bipush 126, 2) := by decide +kernel
theorem dX3_addSign_15 : decode cX3_addSign 15 = .ok (.if_icmp .gt 7, 3) := by decide +kernel
theorem dX3_addSign_18 : decode cX3_addSign 18 = .ok (.iconst 1, 1) := by decide +kernel
theorem dX3_addSign_19 : decode cX3_addSign 19 = .ok (.goto 4, 3) := by decide +kernel
theorem dX3_addSign_22 : decode cX3_addSign 22 = .ok (.iconst 0, 1) := by decide +kernel
theorem dX3_addSign_23 : decode cX3_addSign 23 = .ok (.istore_n 2, 1) := by decide +kernel
theorem dX3_addSign_24 : decode cX3_addSign 24 = .ok (.iload_n 2, 1) := by decide +kernel
theorem dX3_addSign_25 : decode cX3_addSign 25 = .ok (.ifCond .eq 41, 3) := by decide +kernel
theorem dX3_addSign_28 : decode cX3_addSign 28 = .ok (.aload_n 0, 1) := by decide +kernel
theorem dX3_addSign_29 : decode cX3_addSign 29 = .ok (.getfield 17, 3) := by decide +kernel
theorem dX3_addSign_32 : decode cX3_addSign 32 = .ok (.ifCond .lt 34, 3) := by decide +kernel
theorem dX3_addSign_35 : decode cX3_addSign 35 = .ok (.aload_n 0, 1) := by decide +kernel
theorem dX3_addSign_36 : decode cX3_addSign 36 = .ok (.getfield 17, 3) := by decide +kernel
theorem dX3_addSign_39 : decode cX3_addSign 39 = .ok (.sipush 1600, 3) := by decide +kernel
theorem dX3_addSign_42 : decode cX3_addSign 42 = .ok (.if_icmp .ge 24, 3) := by decide +kernel
theorem dX3_addSign_45 : decode cX3_addSign 45 = .ok (.aload_n 0, 1) := by decide +kernel
theorem dX3_addSign_46 : decode cX3_addSign 46 = .ok (.getfield 9, 3) := by decide +kernel
theorem dX3_addSign_49 : decode cX3_addSign 49 = .ok (.aload_n 0, 1) := by decide +kernel
theorem dX3_addSign_50 : decode cX3_addSign 50 = .ok (.getfield 17, 3) := by decide +kernel
theorem dX3_addSign_53 : decode cX3_addSign 53 = .ok (.iload_n 1, 1) := by decide +kernel
theorem dX3_addSign_54 : decode cX3_addSign 54 = .ok (.i2c, 1) := by decide +kernel
theorem dX3_addSign_55 : decode cX3_addSign 55 = .ok (.castore, 1) := by decide +kernel
theorem dX3_addSign_56 : decode cX3_addSign 56 = .ok (.aload_n 0, 1) := by decide +kernel
theorem dX3_addSign_57 : decode cX3_addSign 57 = .ok (.dup, 1) := by decide +kernel
theorem dX3_addSign_58 : decode cX3_addSign 58 = .ok (.getfield 17, 3) := by decide +kernel
theorem dX3_addSign_61 : decode cX3_addSign 61 = .ok (.iconst 1, 1) := by decide +kernel
theorem dX3_addSign_62 : decode cX3_addSign 62 = .ok (.iadd, 1) := by decide +kernel
theorem dX3_addSign_63 : decode cX3_addSign 63 = .ok (.putfield 17, 3) := by decide +kernel
theorem dX3_addSign_66 : decode cX3_addSign 66 = .ok (.return_, 1) := by decide +kernel
theorem dX3_signAt_0 : decode cX3_signAt 0 = .ok (.iload_n 1, 1) := by decide +kernel
theorem dX3_signAt_1 : decode cX3_signAt 1 = .ok (.ifCond .lt 27, 3) := by decide +kernel
theorem dX3_signAt_4 : decode cX3_signAt 4 = .ok (.iload_n 1, 1) := by decide +kernel
theorem dX3_signAt_5 : decode cX3_signAt 5 = .ok (.aload_n 0, 1) := by decide +kernel
theorem dX3_signAt_6 : decode cX3_signAt 6 = .ok (.getfield 17, 3) := by decide +kernel
theorem dX3_signAt_9 : decode cX3_signAt 9 = .ok (.if_icmp .ge 19, 3) := by decide +kernel
theorem dX3_signAt_12 : decode cX3_signAt 12 = .ok (.iload_n 1, 1) := by decide +kernel
theorem dX3_signAt_13 : decode cX3_signAt 13 = .ok (.sipush 1600, 3) := by decide +kernel
theorem dX3_signAt_16 : decode cX3_signAt 16 = .ok (.if_icmp .ge 12, 3) := by decide +kernel
theorem dX3_signAt_19 : decode cX3_signAt 19 = .ok (.aload_n 0, 1) := by decide +kernel
theorem dX3_signAt_20 : decode cX3_signAt 20 = .ok (.getfield 9, 3) := by decide +kernel
theorem dX3_signAt_23 : decode cX3_signAt 23 = .ok (.iload_n 1, 1) := by decide +kernel
theorem dX3_signAt_24 : decode cX3_signAt 24 = .ok (.caload, 1) := by decide +kernel
theorem dX3_signAt_25 : decode cX3_signAt 25 = .ok (.goto 4, 3) := by decide +kernel
theorem dX3_signAt_28 : decode cX3_signAt 28 = .ok (.iconst (-1), 1) := by decide +kernel
theorem dX3_signAt_29 : decode cX3_signAt 29 = .ok (.ireturn, 1) := by decide +kernel
theorem dX3_empty_0 : decode cX3_empty 0 = .ok (.aload_n 0, 1) := by decide +kernel
theorem dX3_empty_1 : decode cX3_empty 1 = .ok (.iconst 0, 1) := by decide +kernel
theorem dX3_empty_2 : decode cX3_empty 2 = .ok (.putfield 17, 3) := by decide +kernel
theorem dX3_empty_5 : decode cX3_empty 5 = .ok (.return_, 1) := by decide +kernel
set_option maxRecDepth 20000 in
theorem ggX4_init_X3_init : GoodIn wsX4_init wsX3_init := goodIn_r _ [28, 29, 2, 3, 30, 31, 78, 79] (by decide +kernel) (by decide +kernel)
set_option maxRecDepth 20000 in
theorem gX4_init_X3_init_n25 : GoodIn wsX4_init (wsX3_init) := ggX4_init_X3_init
set_option maxRecDepth 20000 in
theorem ggX4_init_X2_init : GoodIn wsX4_init wsX2_init := goodIn_r _ [34, 35, 2, 3, 36, 80, 81, 82, 83, 84] (by decide +kernel) (by decide +kernel)
set_option maxRecDepth 20000 in
theorem gX4_init_X2_init : GoodIn wsX4_init (wsX2_init) := ggX4_init_X2_init
set_option maxRecDepth 20000 in
theorem ggX4_init_X1_init : GoodIn wsX4_init wsX1_init := goodIn_r _ [38, 39, 2, 3, 4, 40, 41, 42, 43, 44, 45, 46, 47, 6, 48, 85, 86, 87, 88, 89, 90, 91, 92, 93, 94, 95] (by decide +kernel) (by decide +kernel)
set_option maxRecDepth 20000 in
theorem gX4_init_X1_init_n41 : GoodIn wsX4_init (wsX1_init) := ggX4_init_X1_init
set_option maxRecDepth 20000 in
theorem ggX4_init_X0_init : GoodIn wsX4_init wsX0_init := goodIn_r _ [51, 52, 2, 3, 4, 53, 54, 55, 56, 57, 58, 59, 60, 61, 62, 63, 64, 65, 66, 96, 97, 98, 99, 100, 101, 102, 103, 104, 105, 106, 107] (by decide +kernel) (by decide +kernel)
set_option maxRecDepth 20000 in
theorem gX4_init_X0_init : GoodIn wsX4_init (wsX0_init) := ggX4_init_X0_init
set_option maxRecDepth 20000 in
theorem ggX4_init_J7_fill_53178 : GoodIn wsX4_init wsJ7_fill_53178 := goodIn_r _ [66] (by decide +kernel) (by decide +kernel)
set_option maxRecDepth 20000 in
theorem gX4_init_J7_fill_53178 : GoodIn wsX4_init (va_wsS RX4 56 yJ7_fill_53178 wsJ7_fill_53178) := goodIn_app (goodIn_of _ (by decide +kernel)) ggX4_init_J7_fill_53178
theorem dX4_init_0 : decode cX4_init 0 = .ok (.aload_n 0, 1) := by decide +kernel
theorem dX4_init_1 : decode cX4_init 1 = .ok (.invokespecial 1, 3) := by decide +kernel
theorem dX4_init_4 : decode cX4_init 4 = .ok (.aload_n 0, 1) := by decide +kernel
theorem dX4_init_5 : decode cX4_init 5 = .ok (.bipush 100, 2) := by decide +kernel
theorem dX4_init_7 : decode cX4_init 7 = .ok (.newarray .int, 2) := by decide +kernel
theorem dX4_init_9 : decode cX4_init 9 = .ok (.putfield 9, 3) := by decide +kernel
theorem dX4_init_12 : decode cX4_init 12 = .ok (.aload_n 0, 1) := by decide +kernel
theorem dX4_init_13 : decode cX4_init 13 = .ok (.bipush 100, 2) := by decide +kernel
theorem dX4_init_15 : decode cX4_init 15 = .ok (.newarray .boolean, 2) := by decide +kernel
theorem dX4_init_17 : decode cX4_init 17 = .ok (.putfield 13, 3) := by decide +kernel
theorem dX4_init_20 : decode cX4_init 20 = .ok (.aload_n 0, 1) := by decide +kernel
theorem dX4_init_21 : decode cX4_init 21 = .ok (.bipush 60, 2) := by decide +kernel
theorem dX4_init_23 : decode cX4_init 23 = .ok (.newarray .int, 2) := by decide +kernel
theorem dX4_init_25 : decode cX4_init 25 = .ok (.putfield 17, 3) := by decide +kernel
theorem dX4_init_28 : decode cX4_init 28 = .ok (.aload_n 0, 1) := by decide +kernel
theorem dX4_init_29 : decode cX4_init 29 = .ok (.bipush 60, 2) := by decide +kernel
theorem dX4_init_31 : decode cX4_init 31 = .ok (.newarray .int, 2) := by decide +kernel
theorem dX4_init_33 : decode cX4_init 33 = .ok (.putfield 20, 3) := by decide +kernel
theorem dX4_init_36 : decode cX4_init 36 = .ok (.aload_n 0, 1) := by decide +kernel
theorem dX4_init_37 : decode cX4_init 37 = .ok (.new 23, 3) := by decide +kernel
theorem dX4_init_40 : decode cX4_init 40 = .ok (.dup, 1) := by decide +kernel
theorem dX4_init_41 : decode cX4_init 41 = .ok (.invokespecial 25, 3) := by decide +kernel
theorem dX4_init_44 : decode cX4_init 44 = .ok (.putfield 26, 3) := by decide +kernel
theorem dX4_init_47 : decode cX4_init 47 = .ok (.aload_n 0, 1) := by decide +kernel
theorem dX4_init_48 : decode cX4_init 48 = .ok (.new 30, 3) := by decide +kernel
theorem dX4_init_51 : decode cX4_init 51 = .ok (.dup, 1) := by decide +kernel
theorem dX4_init_52 : decode cX4_init 52 = .ok (.aload_n 0, 1) := by decide +kernel
theorem dX4_init_53 : decode cX4_init 53 = .ok (.getfield 26, 3) := by decide +kernel
theorem dX4_init_56 : decode cX4_init 56 = .ok (.invokespecial 32, 3) := by decide +kernel
theorem dX4_init_59 : decode cX4_init 59 = .ok (.putfield 35, 3) := by decide +kernel
theorem dX4_init_62 : decode cX4_init 62 = .ok (.aload_n 0, 1) := by decide +kernel
theorem dX4_init_63 : decode cX4_init 63 = .ok (.new 39, 3) := by decide +kernel
theorem dX4_init_66 : decode cX4_init 66 = .ok (.dup, 1) := by decide +kernel
theorem dX4_init_67 : decode cX4_init 67 = .ok (.invokespecial 41, 3) := by decide +kernel
theorem dX4_init_70 : decode cX4_init 70 = .ok (.putfield 42, 3) := by decide +kernel
theorem dX4_init_73 : decode cX4_init 73 = .ok (.aload_n 0, 1) := by decide +kernel
theorem dX4_init_74 : decode cX4_init 74 = .ok (.new 39, 3) := by decide +kernel
theorem dX4_init_77 : decode cX4_init 77 = .ok (.dup, 1) := by decide +kernel
theorem dX4_init_78 : decode cX4_init 78 = .ok (.invokespecial 41, 3) := by decide +kernel
theorem dX4_init_81 : decode cX4_init 81 = .ok (.putfield 46, 3) := by decide +kernel
theorem dX4_init_84 : decode cX4_init 84 = .ok (.aload_n 0, 1) := by decide +kernel
theorem dX4_init_85 : decode cX4_init 85 = .ok (.new 49, 3) := by decide +kernel
theorem dX4_init_88 : decode cX4_init 88 = .ok (.dup, 1) := by decide +kernel
theorem dX4_init_89 : decode cX4_init 89 = .ok (.invokespecial 51, 3) := by decide +kernel
theorem dX4_init_92 : decode cX4_init 92 = .ok (.putfield 52, 3) := by decide +kernel
theorem dX4_init_95 : decode cX4_init 95 = .ok (.aload_n 0, 1) := by decide +kernel
theorem dX4_init_96 : decode cX4_init 96 = .ok (.getfield 9, 3) := by decide +kernel
theorem dX4_init_99 : decode cX4_init 99 = .ok (.iconst 1, 1) := by decide +kernel
theorem dX4_init_100 : decode cX4_init 100 = .ok (.invokestatic 56, 3) := by decide +kernel
theorem dX4_init_103 : decode cX4_init 103 = .ok (.return_, 1) := by decide +kernel
set_option maxRecDepth 20000 in
theorem ggX4_kinds_X4_isWord : GoodIn wsX4_kinds wsX4_isWord := goodIn_r _ [6] (by decide +kernel) (by decide +kernel)
set_option maxRecDepth 20000 in
theorem gX4_kinds_X4_isWord : GoodIn wsX4_kinds (va_wsS RX4 62 yX4_isWord wsX4_isWord) := goodIn_app (goodIn_of _ (by decide +kernel)) ggX4_kinds_X4_isWord
set_option maxRecDepth 20000 in
theorem ggX4_kinds_X4_firstPlaceOf : GoodIn wsX4_kinds wsX4_firstPlaceOf := goodIn_r _ [10, 11, 12, 13, 14, 5, 15, 16, 17, 18, 19, 20, 27, 28, 29, 30, 31, 32, 33, 34, 35, 36] (by decide +kernel) (by decide +kernel)
set_option maxRecDepth 20000 in
theorem gX4_kinds_X4_firstPlaceOf : GoodIn wsX4_kinds (wsV RX4 66 RX4 yX4_firstPlaceOf wsX4_firstPlaceOf) := goodIn_app (goodIn_of _ (by decide +kernel)) ggX4_kinds_X4_firstPlaceOf
set_option maxRecDepth 20000 in
theorem ggX4_kinds_X0_keep : GoodIn wsX4_kinds wsX0_keep := goodIn_r _ [25, 26, 37, 38, 39, 40, 41, 42, 43, 44, 45, 46, 47, 48] (by decide +kernel) (by decide +kernel)
set_option maxRecDepth 20000 in
theorem gX4_kinds_X0_keep : GoodIn wsX4_kinds (wsV RX4 70 RX0 yX0_keep wsX0_keep) := goodIn_app (goodIn_of _ (by decide +kernel)) ggX4_kinds_X0_keep
theorem dX4_kinds_0 : decode cX4_kinds 0 = .ok (.iload_n 1, 1) := by decide +kernel
theorem dX4_kinds_1 : decode cX4_kinds 1 = .ok (.invokestatic 62, 3) := by decide +kernel
theorem dX4_kinds_4 : decode cX4_kinds 4 = .ok (.ifCond .eq 15, 3) := by decide +kernel
theorem dX4_kinds_7 : decode cX4_kinds 7 = .ok (.iload_n 2, 1) := by decide +kernel
theorem dX4_kinds_8 : decode cX4_kinds 8 = .ok (.iconst 1, 1) := by decide +kernel
theorem dX4_kinds_9 : decode cX4_kinds 9 = .ok (.if_icmp .lt 10, 3) := by decide +kernel
theorem dX4_kinds_12 : decode cX4_kinds 12 = .ok (.iload_n 2, 1) := by decide +kernel
theorem dX4_kinds_13 : decode cX4_kinds 13 = .ok (.sipush 255, 3) := by decide +kernel
theorem dX4_kinds_16 : decode cX4_kinds 16 = .ok (.if_icmp .le 5, 3) := by decide +kernel
theorem dX4_kinds_19 : decode cX4_kinds 19 = .ok (.iconst 0, 1) := by decide +kernel
theorem dX4_kinds_20 : decode cX4_kinds 20 = .ok (.ireturn, 1) := by decide +kernel
theorem dX4_kinds_21 : decode cX4_kinds 21 = .ok (.aload_n 0, 1) := by decide +kernel
theorem dX4_kinds_22 : decode cX4_kinds 22 = .ok (.getfield 9, 3) := by decide +kernel
theorem dX4_kinds_25 : decode cX4_kinds 25 = .ok (.iload_n 1, 1) := by decide +kernel
theorem dX4_kinds_26 : decode cX4_kinds 26 = .ok (.iload_n 2, 1) := by decide +kernel
theorem dX4_kinds_27 : decode cX4_kinds 27 = .ok (.iastore, 1) := by decide +kernel
theorem dX4_kinds_28 : decode cX4_kinds 28 = .ok (.aload_n 0, 1) := by decide +kernel
theorem dX4_kinds_29 : decode cX4_kinds 29 = .ok (.getfield 52, 3) := by decide +kernel
theorem dX4_kinds_32 : decode cX4_kinds 32 = .ok (.aload_n 0, 1) := by decide +kernel
theorem dX4_kinds_33 : decode cX4_kinds 33 = .ok (.iload_n 1, 1) := by decide +kernel
theorem dX4_kinds_34 : decode cX4_kinds 34 = .ok (.invokevirtual 66, 3) := by decide +kernel
theorem dX4_kinds_37 : decode cX4_kinds 37 = .ok (.invokevirtual 70, 3) := by decide +kernel
theorem dX4_kinds_40 : decode cX4_kinds 40 = .ok (.iconst 1, 1) := by decide +kernel
theorem dX4_kinds_41 : decode cX4_kinds 41 = .ok (.ireturn, 1) := by decide +kernel
set_option maxRecDepth 20000 in
theorem ggX4_name_X4_isWord : GoodIn wsX4_name wsX4_isWord := goodIn_r _ [5] (by decide +kernel) (by decide +kernel)
set_option maxRecDepth 20000 in
theorem gX4_name_X4_isWord : GoodIn wsX4_name (va_wsS RX4 62 yX4_isWord wsX4_isWord) := goodIn_app (goodIn_of _ (by decide +kernel)) ggX4_name_X4_isWord
theorem dX4_name_0 : decode cX4_name 0 = .ok (.iload_n 1, 1) := by decide +kernel
theorem dX4_name_1 : decode cX4_name 1 = .ok (.invokestatic 62, 3) := by decide +kernel
theorem dX4_name_4 : decode cX4_name 4 = .ok (.ifCond .ne 5, 3) := by decide +kernel
theorem dX4_name_7 : decode cX4_name 7 = .ok (.iconst 0, 1) := by decide +kernel
theorem dX4_name_8 : decode cX4_name 8 = .ok (.ireturn, 1) := by decide +kernel
theorem dX4_name_9 : decode cX4_name 9 = .ok (.aload_n 0, 1) := by decide +kernel
theorem dX4_name_10 : decode cX4_name 10 = .ok (.getfield 13, 3) := by decide +kernel
theorem dX4_name_13 : decode cX4_name 13 = .ok (.iload_n 1, 1) := by decide +kernel
theorem dX4_name_14 : decode cX4_name 14 = .ok (.iload_n 2, 1) := by decide +kernel
theorem dX4_name_15 : decode cX4_name 15 = .ok (.bastore, 1) := by decide +kernel
theorem dX4_name_16 : decode cX4_name 16 = .ok (.iconst 1, 1) := by decide +kernel
theorem dX4_name_17 : decode cX4_name 17 = .ok (.ireturn, 1) := by decide +kernel
set_option maxRecDepth 20000 in
theorem ggX4_word_X4_isWord : GoodIn wsX4_word wsX4_isWord := goodIn_r _ [7] (by decide +kernel) (by decide +kernel)
set_option maxRecDepth 20000 in
theorem gX4_word_X4_isWord : GoodIn wsX4_word (va_wsS RX4 62 yX4_isWord wsX4_isWord) := goodIn_app (goodIn_of _ (by decide +kernel)) ggX4_word_X4_isWord
theorem dX4_word_0 : decode cX4_word 0 = .ok (.iload_n 1, 1) := by decide +kernel
theorem dX4_word_1 : decode cX4_word 1 = .ok (.invokestatic 62, 3) := by decide +kernel
theorem dX4_word_4 : decode cX4_word 4 = .ok (.ifCond .eq 19, 3) := by decide +kernel
theorem dX4_word_7 : decode cX4_word 7 = .ok (.aload_n 0, 1) := by decide +kernel
theorem dX4_word_8 : decode cX4_word 8 = .ok (.getfield 74, 3) := by decide +kernel
theorem dX4_word_11 : decode cX4_word 11 = .ok (.ifCond .lt 12, 3) := by decide +kernel
theorem dX4_word_14 : decode cX4_word 14 = .ok (.aload_n 0, 1) := by decide +kernel
theorem dX4_word_15 : decode cX4_word 15 = .ok (.getfield 74, 3) := by decide +kernel
theorem dX4_word_18 : decode cX4_word 18 = .ok (.bipush 60, 2) := by decide +kernel
theorem dX4_word_20 : decode cX4_word 20 = .ok (.if_icmp .lt 5, 3) := by decide +kernel
theorem dX4_word_23 : decode cX4_word 23 = .ok (.iconst (-1), 1) := by decide +kernel
theorem dX4_word_24 : decode cX4_word 24 = .ok (.ireturn, 1) := by decide +kernel
theorem dX4_word_25 : decode cX4_word 25 = .ok (.aload_n 0, 1) := by decide +kernel
theorem dX4_word_26 : decode cX4_word 26 = .ok (.getfield 17, 3) := by decide +kernel
theorem dX4_word_29 : decode cX4_word 29 = .ok (.aload_n 0, 1) := by decide +kernel
theorem dX4_word_30 : decode cX4_word 30 = .ok (.getfield 74, 3) := by decide +kernel
theorem dX4_word_33 : decode cX4_word 33 = .ok (.iload_n 1, 1) := by decide +kernel
theorem dX4_word_34 : decode cX4_word 34 = .ok (.iastore, 1) := by decide +kernel
theorem dX4_word_35 : decode cX4_word 35 = .ok (.aload_n 0, 1) := by decide +kernel
theorem dX4_word_36 : decode cX4_word 36 = .ok (.getfield 20, 3) := by decide +kernel
theorem dX4_word_39 : decode cX4_word 39 = .ok (.aload_n 0, 1) := by decide +kernel
theorem dX4_word_40 : decode cX4_word 40 = .ok (.getfield 74, 3) := by decide +kernel
theorem dX4_word_43 : decode cX4_word 43 = .ok (.iconst (-1), 1) := by decide +kernel
theorem dX4_word_44 : decode cX4_word 44 = .ok (.iastore, 1) := by decide +kernel
theorem dX4_word_45 : decode cX4_word 45 = .ok (.aload_n 0, 1) := by decide +kernel
theorem dX4_word_46 : decode cX4_word 46 = .ok (.dup, 1) := by decide +kernel
theorem dX4_word_47 : decode cX4_word 47 = .ok (.getfield 74, 3) := by decide +kernel
theorem dX4_word_50 : decode cX4_word 50 = .ok (.iconst 1, 1) := by decide +kernel
theorem dX4_word_51 : decode cX4_word 51 = .ok (.iadd, 1) := by decide +kernel
theorem dX4_word_52 : decode cX4_word 52 = .ok (.putfield 74, 3) := by decide +kernel
theorem dX4_word_55 : decode cX4_word 55 = .ok (.aload_n 0, 1) := by decide +kernel
theorem dX4_word_56 : decode cX4_word 56 = .ok (.getfield 74, 3) := by decide +kernel
theorem dX4_word_59 : decode cX4_word 59 = .ok (.ireturn, 1) := by decide +kernel
set_option maxRecDepth 20000 in
theorem ggX4_drop_X0_keep : GoodIn wsX4_drop wsX0_keep := goodIn_r _ [7, 8, 19, 20, 21, 22, 23, 24, 25, 26, 27, 28, 29, 30] (by decide +kernel) (by decide +kernel)
set_option maxRecDepth 20000 in
theorem gX4_drop_X0_keep : GoodIn wsX4_drop (wsV RX4 70 RX0 yX0_keep wsX0_keep) := goodIn_app (goodIn_of _ (by decide +kernel)) ggX4_drop_X0_keep
theorem dX4_drop_0 : decode cX4_drop 0 = .ok (.aload_n 0, 1) := by decide +kernel
theorem dX4_drop_1 : decode cX4_drop 1 = .ok (.getfield 74, 3) := by decide +kernel
theorem dX4_drop_4 : decode cX4_drop 4 = .ok (.ifCond .gt 5, 3) := by decide +kernel
theorem dX4_drop_7 : decode cX4_drop 7 = .ok (.iconst (-1), 1) := by decide +kernel
theorem dX4_drop_8 : decode cX4_drop 8 = .ok (.ireturn, 1) := by decide +kernel
theorem dX4_drop_9 : decode cX4_drop 9 = .ok (.aload_n 0, 1) := by decide +kernel
theorem dX4_drop_10 : decode cX4_drop 10 = .ok (.dup, 1) := by decide +kernel
theorem dX4_drop_11 : decode cX4_drop 11 = .ok (.getfield 74, 3) := by decide +kernel
theorem dX4_drop_14 : decode cX4_drop 14 = .ok (.iconst 1, 1) := by decide +kernel
theorem dX4_drop_15 : decode cX4_drop 15 = .ok (.isub, 1) := by decide +kernel
theorem dX4_drop_16 : decode cX4_drop 16 = .ok (.putfield 74, 3) := by decide +kernel
theorem dX4_drop_19 : decode cX4_drop 19 = .ok (.aload_n 0, 1) := by decide +kernel
theorem dX4_drop_20 : decode cX4_drop 20 = .ok (.getfield 52, 3) := by decide +kernel
theorem dX4_drop_23 : decode cX4_drop 23 = .ok (.aload_n 0, 1) := by decide +kernel
theorem dX4_drop_24 : decode cX4_drop 24 = .ok (.getfield 74, 3) := by decide +kernel
theorem dX4_drop_27 : decode cX4_drop 27 = .ok (.invokevirtual 70, 3) := by decide +kernel
theorem dX4_drop_30 : decode cX4_drop 30 = .ok (.aload_n 0, 1) := by decide +kernel
theorem dX4_drop_31 : decode cX4_drop 31 = .ok (.getfield 74, 3) := by decide +kernel
theorem dX4_drop_34 : decode cX4_drop 34 = .ok (.ireturn, 1) := by decide +kernel
set_option maxRecDepth 20000 in
theorem ggX4_hand_X4_hasPlace : GoodIn wsX4_hand wsX4_hasPlace := goodIn_r _ [7, 8, 15, 16, 17, 18, 19, 20, 21, 22, 23, 24] (by decide +kernel) (by decide +kernel)
set_option maxRecDepth 20000 in
theorem gX4_hand_X4_hasPlace : GoodIn wsX4_hand (wsV RX4 78 RX4 yX4_hasPlace wsX4_hasPlace) := goodIn_app (goodIn_of _ (by decide +kernel)) ggX4_hand_X4_hasPlace
set_option maxRecDepth 20000 in
theorem ggX4_hand_X0_keep : GoodIn wsX4_hand wsX0_keep := goodIn_r _ [13, 14, 25, 26, 27, 28, 29, 30, 31, 32, 33, 34, 35, 36] (by decide +kernel) (by decide +kernel)
set_option maxRecDepth 20000 in
theorem gX4_hand_X0_keep : GoodIn wsX4_hand (wsV RX4 70 RX0 yX0_keep wsX0_keep) := goodIn_app (goodIn_of _ (by decide +kernel)) ggX4_hand_X0_keep
theorem dX4_hand_0 : decode cX4_hand 0 = .ok (.aload_n 0, 1) := by decide +kernel
theorem dX4_hand_1 : decode cX4_hand 1 = .ok (.iload_n 1, 1) := by decide +kernel
theorem dX4_hand_2 : decode cX4_hand 2 = .ok (.invokevirtual 78, 3) := by decide +kernel
theorem dX4_hand_5 : decode cX4_hand 5 = .ok (.ifCond .eq 23, 3) := by decide +kernel
theorem dX4_hand_8 : decode cX4_hand 8 = .ok (.iload_n 2, 1) := by decide +kernel
theorem dX4_hand_9 : decode cX4_hand 9 = .ok (.iconst (-1), 1) := by decide +kernel
theorem dX4_hand_10 : decode cX4_hand 10 = .ok (.if_icmp .lt 18, 3) := by decide +kernel
theorem dX4_hand_13 : decode cX4_hand 13 = .ok (.iload_n 2, 1) := by decide +kernel
theorem dX4_hand_14 : decode cX4_hand 14 = .ok (.bipush 6, 2) := by decide +kernel
theorem dX4_hand_16 : decode cX4_hand 16 = .ok (.if_icmp .gt 12, 3) := by decide +kernel
theorem dX4_hand_19 : decode cX4_hand 19 = .ok (.iload_n 1, 1) := by decide +kernel
theorem dX4_hand_20 : decode cX4_hand 20 = .ok (.ifCond .ne 10, 3) := by decide +kernel
theorem dX4_hand_23 : decode cX4_hand 23 = .ok (.iload_n 2, 1) := by decide +kernel
theorem dX4_hand_24 : decode cX4_hand 24 = .ok (.iconst 4, 1) := by decide +kernel
theorem dX4_hand_25 : decode cX4_hand 25 = .ok (.if_icmp .lt 5, 3) := by decide +kernel
theorem dX4_hand_28 : decode cX4_hand 28 = .ok (.iconst 0, 1) := by decide +kernel
theorem dX4_hand_29 : decode cX4_hand 29 = .ok (.ireturn, 1) := by decide +kernel
theorem dX4_hand_30 : decode cX4_hand 30 = .ok (.aload_n 0, 1) := by decide +kernel
theorem dX4_hand_31 : decode cX4_hand 31 = .ok (.getfield 20, 3) := by decide +kernel
theorem dX4_hand_34 : decode cX4_hand 34 = .ok (.iload_n 1, 1) := by decide +kernel
theorem dX4_hand_35 : decode cX4_hand 35 = .ok (.iload_n 2, 1) := by decide +kernel
theorem dX4_hand_36 : decode cX4_hand 36 = .ok (.iastore, 1) := by decide +kernel
theorem dX4_hand_37 : decode cX4_hand 37 = .ok (.aload_n 0, 1) := by decide +kernel
theorem dX4_hand_38 : decode cX4_hand 38 = .ok (.getfield 52, 3) := by decide +kernel
theorem dX4_hand_41 : decode cX4_hand 41 = .ok (.iload_n 1, 1) := by decide +kernel
theorem dX4_hand_42 : decode cX4_hand 42 = .ok (.invokevirtual 70, 3) := by decide +kernel
theorem dX4_hand_45 : decode cX4_hand 45 = .ok (.iconst 1, 1) := by decide +kernel
theorem dX4_hand_46 : decode cX4_hand 46 = .ok (.ireturn, 1) := by decide +kernel
set_option maxRecDepth 20000 in
theorem ggX4_feed_X3_addBytes : GoodIn wsX4_feed wsX3_addBytes := goodIn_r _ [6, 7, 8, 9, 5, 10, 11, 12, 23, 24] (by decide +kernel) (by decide +kernel)
set_option maxRecDepth 20000 in
theorem gX4_feed_X3_addBytes : GoodIn wsX4_feed (wsV RX4 81 RX3 yX3_addBytes wsX3_addBytes) := goodIn_app (goodIn_of _ (by decide +kernel)) ggX4_feed_X3_addBytes
theorem dX4_feed_0 : decode cX4_feed 0 = .ok (.aload_n 0, 1) := by decide +kernel
theorem dX4_feed_1 : decode cX4_feed 1 = .ok (.getfield 26, 3) := by decide +kernel
theorem dX4_feed_4 : decode cX4_feed 4 = .ok (.lload_n 1, 1) := by decide +kernel
theorem dX4_feed_5 : decode cX4_feed 5 = .ok (.invokevirtual 81, 3) := by decide +kernel
theorem dX4_feed_8 : decode cX4_feed 8 = .ok (.aload_n 0, 1) := by decide +kernel
theorem dX4_feed_9 : decode cX4_feed 9 = .ok (.getfield 26, 3) := by decide +kernel
theorem dX4_feed_12 : decode cX4_feed 12 = .ok (.lload_n 3, 1) := by decide +kernel
theorem dX4_feed_13 : decode cX4_feed 13 = .ok (.invokevirtual 81, 3) := by decide +kernel
theorem dX4_feed_16 : decode cX4_feed 16 = .ok (.aload_n 0, 1) := by decide +kernel
theorem dX4_feed_17 : decode cX4_feed 17 = .ok (.getfield 26, 3) := by decide +kernel
theorem dX4_feed_20 : decode cX4_feed 20 = .ok (.lload 5, 2) := by decide +kernel
theorem dX4_feed_22 : decode cX4_feed 22 = .ok (.invokevirtual 81, 3) := by decide +kernel
theorem dX4_feed_25 : decode cX4_feed 25 = .ok (.aload_n 0, 1) := by decide +kernel
theorem dX4_feed_26 : decode cX4_feed 26 = .ok (.getfield 26, 3) := by decide +kernel
theorem dX4_feed_29 : decode cX4_feed 29 = .ok (.getfield 85, 3) := by decide +kernel
theorem dX4_feed_32 : decode cX4_feed 32 = .ok (.ireturn, 1) := by decide +kernel
set_option maxRecDepth 20000 in
theorem ggX4_grammar_X2_read : GoodIn wsX4_grammar wsX2_read := goodIn_r _ [10, 11, 12, 13, 14, 15, 16, 17, 18, 19, 20, 21, 22, 23, 9, 24, 25, 26, 27, 28, 29, 30, 31, 32, 33, 34, 35, 36, 37, 38, 39, 40, 41, 42, 43, 44, 45, 46, 47, 48, 49, 50, 51, 52, 53, 54, 55, 56, 57, 58, 59, 60, 61, 62, 63, 64, 65, 66, 67, 68, 69, 70, 71, 72, 73, 74, 75, 76, 77, 78, 79, 80, 81, 82, 83, 84, 85, 86, 87, 88, 89, 90, 91, 92, 93, 94, 95, 96, 97, 98, 99, 100, 101, 102, 103, 104, 105, 106, 107, 108, 109, 110, 111, 112, 113, 114, 115, 116, 117, 118, 119, 120, 121, 122, 123, 124, 125, 126, 127, 128, 129, 130, 131, 132, 133, 134, 135, 136, 137, 138, 139, 140, 141, 194, 195, 196, 197, 198, 199, 200, 201, 202, 203, 204, 205, 206, 207, 208, 209, 210, 211] (by decide +kernel) (by decide +kernel)
set_option maxRecDepth 20000 in
theorem gX4_grammar_X2_read : GoodIn wsX4_grammar (wsV RX4 88 RX2 yX2_read wsX2_read) := goodIn_app (goodIn_of _ (by decide +kernel)) ggX4_grammar_X2_read
set_option maxRecDepth 20000 in
theorem ggX4_grammar_X3_empty : GoodIn wsX4_grammar wsX3_empty := goodIn_r _ [145, 36, 210, 211] (by decide +kernel) (by decide +kernel)
set_option maxRecDepth 20000 in
theorem gX4_grammar_X3_empty : GoodIn wsX4_grammar (wsV RX4 92 RX3 yX3_empty wsX3_empty) := goodIn_app (goodIn_of _ (by decide +kernel)) ggX4_grammar_X3_empty
set_option maxRecDepth 20000 in
theorem ggX4_grammar_X1_findHopeful : GoodIn wsX4_grammar wsX1_findHopeful := goodIn_r _ [149, 150, 20, 139, 19, 151, 152, 153, 17, 154, 155, 156, 157, 158, 159, 160, 161, 162, 163, 164, 165, 122, 166, 167, 168, 169, 170, 171, 172, 173, 126, 124, 174, 175, 176, 177, 199, 200, 201, 202, 203, 204, 205, 206, 207, 208, 209] (by decide +kernel) (by decide +kernel)
set_option maxRecDepth 20000 in
theorem gX4_grammar_X1_findHopeful : GoodIn wsX4_grammar (wsV RX4 95 RX1 yX1_findHopeful wsX1_findHopeful) := goodIn_app (goodIn_of _ (by decide +kernel)) ggX4_grammar_X1_findHopeful
set_option maxRecDepth 20000 in
theorem ggX4_grammar_X0_keep : GoodIn wsX4_grammar wsX0_keep := goodIn_r _ [182, 183, 212, 213, 214, 215, 216, 217, 218, 219, 220, 221, 222, 223] (by decide +kernel) (by decide +kernel)
set_option maxRecDepth 20000 in
theorem gX4_grammar_X0_keep : GoodIn wsX4_grammar (wsV RX4 70 RX0 yX0_keep wsX0_keep) := goodIn_app (goodIn_of _ (by decide +kernel)) ggX4_grammar_X0_keep
theorem dX4_grammar_0 : decode cX4_grammar 0 = .ok (.aload_n 0, 1) := by decide +kernel
theorem dX4_grammar_1 : decode cX4_grammar 1 = .ok (.getfield 35, 3) := by decide +kernel
theorem dX4_grammar_4 : decode cX4_grammar 4 = .ok (.aload_n 0, 1) := by decide +kernel
theorem dX4_grammar_5 : decode cX4_grammar 5 = .ok (.getfield 46, 3) := by decide +kernel
theorem dX4_grammar_8 : decode cX4_grammar 8 = .ok (.invokevirtual 88, 3) := by decide +kernel
theorem dX4_grammar_11 : decode cX4_grammar 11 = .ok (.istore_n 1, 1) := by decide +kernel
theorem dX4_grammar_12 : decode cX4_grammar 12 = .ok (.aload_n 0, 1) := by decide +kernel
theorem dX4_grammar_13 : decode cX4_grammar 13 = .ok (.getfield 26, 3) := by decide +kernel
theorem dX4_grammar_16 : decode cX4_grammar 16 = .ok (.invokevirtual 92, 3) := by decide +kernel
theorem dX4_grammar_19 : decode cX4_grammar 19 = .ok (.iload_n 1, 1) := by decide +kernel
theorem dX4_grammar_20 : decode cX4_grammar 20 = .ok (.ifCond .ne 36, 3) := by decide +kernel
theorem dX4_grammar_23 : decode cX4_grammar 23 = .ok (.aload_n 0, 1) := by decide +kernel
theorem dX4_grammar_24 : decode cX4_grammar 24 = .ok (.getfield 42, 3) := by decide +kernel
theorem dX4_grammar_27 : decode cX4_grammar 27 = .ok (.astore_n 2, 1) := by decide +kernel
theorem dX4_grammar_28 : decode cX4_grammar 28 = .ok (.aload_n 0, 1) := by decide +kernel
theorem dX4_grammar_29 : decode cX4_grammar 29 = .ok (.aload_n 0, 1) := by decide +kernel
theorem dX4_grammar_30 : decode cX4_grammar 30 = .ok (.getfield 46, 3) := by decide +kernel
theorem dX4_grammar_33 : decode cX4_grammar 33 = .ok (.putfield 42, 3) := by decide +kernel
theorem dX4_grammar_36 : decode cX4_grammar 36 = .ok (.aload_n 0, 1) := by decide +kernel
theorem dX4_grammar_37 : decode cX4_grammar 37 = .ok (.aload_n 2, 1) := by decide +kernel
theorem dX4_grammar_38 : decode cX4_grammar 38 = .ok (.putfield 46, 3) := by decide +kernel
theorem dX4_grammar_41 : decode cX4_grammar 41 = .ok (.aload_n 0, 1) := by decide +kernel
theorem dX4_grammar_42 : decode cX4_grammar 42 = .ok (.getfield 42, 3) := by decide +kernel
theorem dX4_grammar_45 : decode cX4_grammar 45 = .ok (.invokevirtual 95, 3) := by decide +kernel
theorem dX4_grammar_48 : decode cX4_grammar 48 = .ok (.aload_n 0, 1) := by decide +kernel
theorem dX4_grammar_49 : decode cX4_grammar 49 = .ok (.getfield 52, 3) := by decide +kernel
theorem dX4_grammar_52 : decode cX4_grammar 52 = .ok (.iconst 0, 1) := by decide +kernel
theorem dX4_grammar_53 : decode cX4_grammar 53 = .ok (.invokevirtual 70, 3) := by decide +kernel
theorem dX4_grammar_56 : decode cX4_grammar 56 = .ok (.iload_n 1, 1) := by decide +kernel
theorem dX4_grammar_57 : decode cX4_grammar 57 = .ok (.ireturn, 1) := by decide +kernel
set_option maxRecDepth 20000 in
theorem ggX4_cost_X4_solve : GoodIn wsX4_cost wsX4_solve := goodIn_r _ [6, 1, 7, 8, 9, 10, 11, 12, 13, 5, 14, 15, 16, 17, 18, 19, 20, 21, 22, 23, 24, 25, 26, 27, 28, 29, 30, 31, 32, 33, 34, 35, 36, 37, 38, 39, 40, 41, 42, 43, 44, 45, 46, 47, 48, 49, 50, 51, 52, 53, 54, 55, 56, 57, 58, 59, 60, 61, 62, 63, 64, 65, 66, 67, 68, 69, 70, 71, 72, 73, 74, 75, 76, 77, 78, 79, 80, 81, 82, 83, 84, 85, 86, 87, 88, 89, 90, 91, 92, 93, 94, 95, 96, 97, 98, 99, 100, 101, 102, 103, 104, 105, 106, 107, 108, 109, 110, 111, 112, 113, 114, 115, 116, 117, 118, 119, 124, 125, 126, 127, 128, 129, 130, 131, 132, 133, 134, 135, 136, 137, 138, 139, 140, 141, 142, 143, 144, 145, 146, 147, 148, 149, 150, 151, 152, 153, 154, 155, 156] (by decide +kernel) (by decide +kernel)
set_option maxRecDepth 20000 in
theorem gX4_cost_X4_solve : GoodIn wsX4_cost (wsV RX4 98 RX4 yX4_solve wsX4_solve) := goodIn_app (goodIn_of _ (by decide +kernel)) ggX4_cost_X4_solve
set_option maxRecDepth 20000 in
theorem ggX4_cost_X0_isParted : GoodIn wsX4_cost wsX0_isParted := goodIn_r _ [123, 112, 30, 134, 135, 136, 137, 138, 139, 140, 141, 142, 143, 144, 145] (by decide +kernel) (by decide +kernel)
set_option maxRecDepth 20000 in
theorem gX4_cost_X0_isParted : GoodIn wsX4_cost (wsV RX4 101 RX0 yX0_isParted wsX0_isParted) := goodIn_app (goodIn_of _ (by decide +kernel)) ggX4_cost_X0_isParted
theorem dX4_cost_0 : decode cX4_cost 0 = .ok (.aload_n 0, 1) := by decide +kernel
theorem dX4_cost_1 : decode cX4_cost 1 = .ok (.invokevirtual 98, 3) := by decide +kernel
theorem dX4_cost_4 : decode cX4_cost 4 = .ok (.aload_n 0, 1) := by decide +kernel
theorem dX4_cost_5 : decode cX4_cost 5 = .ok (.getfield 52, 3) := by decide +kernel
theorem dX4_cost_8 : decode cX4_cost 8 = .ok (.invokevirtual 101, 3) := by decide +kernel
theorem dX4_cost_11 : decode cX4_cost 11 = .ok (.ifCond .eq 13, 3) := by decide +kernel
theorem dX4_cost_14 : decode cX4_cost 14 = .ok (.aload_n 0, 1) := by decide +kernel
theorem dX4_cost_15 : decode cX4_cost 15 = .ok (.getfield 52, 3) := by decide +kernel
theorem dX4_cost_18 : decode cX4_cost 18 = .ok (.getfield 105, 3) := by decide +kernel
theorem dX4_cost_21 : decode cX4_cost 21 = .ok (.goto 4, 3) := by decide +kernel
theorem dX4_cost_24 : decode cX4_cost 24 = .ok (.iconst (-1), 1) := by decide +kernel
theorem dX4_cost_25 : decode cX4_cost 25 = .ok (.ireturn, 1) := by decide +kernel
set_option maxRecDepth 20000 in
theorem ggX4_second_X4_solve : GoodIn wsX4_second wsX4_solve := goodIn_r _ [6, 1, 7, 8, 9, 10, 11, 12, 13, 5, 14, 15, 16, 17, 18, 19, 20, 21, 22, 23, 24, 25, 26, 27, 28, 29, 30, 31, 32, 33, 34, 35, 36, 37, 38, 39, 40, 41, 42, 43, 44, 45, 46, 47, 48, 49, 50, 51, 52, 53, 54, 55, 56, 57, 58, 59, 60, 61, 62, 63, 64, 65, 66, 67, 68, 69, 70, 71, 72, 73, 74, 75, 76, 77, 78, 79, 80, 81, 82, 83, 84, 85, 86, 87, 88, 89, 90, 91, 92, 93, 94, 95, 96, 97, 98, 99, 100, 101, 102, 103, 104, 105, 106, 107, 108, 109, 110, 111, 112, 113, 114, 115, 116, 117, 118, 119, 124, 125, 126, 127, 128, 129, 130, 131, 132, 133, 134, 135, 136, 137, 138, 139, 140, 141, 142, 143, 144, 145, 146, 147, 148, 149, 150, 151, 152, 153, 154, 155, 156] (by decide +kernel) (by decide +kernel)
set_option maxRecDepth 20000 in
theorem gX4_second_X4_solve : GoodIn wsX4_second (wsV RX4 98 RX4 yX4_solve wsX4_solve) := goodIn_app (goodIn_of _ (by decide +kernel)) ggX4_second_X4_solve
set_option maxRecDepth 20000 in
theorem ggX4_second_X0_isPartedTwice : GoodIn wsX4_second wsX0_isPartedTwice := goodIn_r _ [123, 113, 30, 134, 135, 136, 137, 138, 139, 140, 141, 142, 143, 144, 145] (by decide +kernel) (by decide +kernel)
set_option maxRecDepth 20000 in
theorem gX4_second_X0_isPartedTwice : GoodIn wsX4_second (wsV RX4 108 RX0 yX0_isPartedTwice wsX0_isPartedTwice) := goodIn_app (goodIn_of _ (by decide +kernel)) ggX4_second_X0_isPartedTwice
theorem dX4_second_0 : decode cX4_second 0 = .ok (.aload_n 0, 1) := by decide +kernel
theorem dX4_second_1 : decode cX4_second 1 = .ok (.invokevirtual 98, 3) := by decide +kernel
theorem dX4_second_4 : decode cX4_second 4 = .ok (.aload_n 0, 1) := by decide +kernel
theorem dX4_second_5 : decode cX4_second 5 = .ok (.getfield 52, 3) := by decide +kernel
theorem dX4_second_8 : decode cX4_second 8 = .ok (.invokevirtual 108, 3) := by decide +kernel
theorem dX4_second_11 : decode cX4_second 11 = .ok (.ifCond .eq 13, 3) := by decide +kernel
theorem dX4_second_14 : decode cX4_second 14 = .ok (.aload_n 0, 1) := by decide +kernel
theorem dX4_second_15 : decode cX4_second 15 = .ok (.getfield 52, 3) := by decide +kernel
theorem dX4_second_18 : decode cX4_second 18 = .ok (.getfield 111, 3) := by decide +kernel
theorem dX4_second_21 : decode cX4_second 21 = .ok (.goto 4, 3) := by decide +kernel
theorem dX4_second_24 : decode cX4_second 24 = .ok (.iconst (-1), 1) := by decide +kernel
theorem dX4_second_25 : decode cX4_second 25 = .ok (.ireturn, 1) := by decide +kernel
set_option maxRecDepth 20000 in
theorem ggX4_look_X4_solve : GoodIn wsX4_look wsX4_solve := goodIn_r _ [9, 3, 10, 4, 11, 12, 13, 14, 15, 8, 16, 17, 18, 19, 20, 21, 22, 23, 24, 25, 26, 27, 28, 29, 30, 31, 32, 33, 34, 35, 36, 37, 38, 39, 40, 41, 42, 43, 44, 45, 46, 47, 48, 49, 50, 51, 52, 53, 54, 55, 56, 57, 58, 59, 60, 61, 62, 63, 64, 65, 66, 67, 68, 69, 70, 71, 72, 73, 74, 75, 76, 77, 78, 79, 80, 81, 82, 83, 84, 85, 86, 87, 88, 89, 90, 91, 92, 93, 94, 95, 96, 97, 98, 99, 100, 101, 102, 103, 104, 105, 106, 107, 108, 109, 110, 111, 112, 113, 114, 115, 116, 117, 118, 119, 120, 121, 153, 154, 155, 156, 157, 158, 159, 160, 161, 162, 163, 164, 165, 166, 167, 168, 169, 170, 171, 172, 173, 174, 175, 176, 177, 178, 179, 180, 181, 182, 183, 184, 185] (by decide +kernel) (by decide +kernel)
set_option maxRecDepth 20000 in
theorem gX4_look_X4_solve : GoodIn wsX4_look (wsV RX4 98 RX4 yX4_solve wsX4_solve) := goodIn_app (goodIn_of _ (by decide +kernel)) ggX4_look_X4_solve
set_option maxRecDepth 20000 in
theorem ggX4_look_X4_hasPlace : GoodIn wsX4_look wsX4_hasPlace := goodIn_r _ [21, 10, 153, 154, 155, 156, 157, 158, 159, 160, 161, 162] (by decide +kernel) (by decide +kernel)
set_option maxRecDepth 20000 in
theorem gX4_look_X4_hasPlace : GoodIn wsX4_look (wsV RX4 78 RX4 yX4_hasPlace wsX4_hasPlace) := goodIn_app (goodIn_of _ (by decide +kernel)) ggX4_look_X4_hasPlace
set_option maxRecDepth 20000 in
theorem ggX4_look_X0_isParted : GoodIn wsX4_look wsX0_isParted := goodIn_r _ [125, 114, 32, 163, 164, 165, 166, 167, 168, 169, 170, 171, 172, 173, 174] (by decide +kernel) (by decide +kernel)
set_option maxRecDepth 20000 in
theorem gX4_look_X0_isParted : GoodIn wsX4_look (wsV RX4 101 RX0 yX0_isParted wsX0_isParted) := goodIn_app (goodIn_of _ (by decide +kernel)) ggX4_look_X0_isParted
set_option maxRecDepth 20000 in
theorem ggX4_look_X0_nodeBehind : GoodIn wsX4_look wsX0_nodeBehind := goodIn_r _ [129, 116, 30, 89, 34, 35, 28, 36, 163, 164, 165, 166, 167, 168, 169, 170, 171, 172, 173, 174] (by decide +kernel) (by decide +kernel)
set_option maxRecDepth 20000 in
theorem gX4_look_X0_nodeBehind : GoodIn wsX4_look (wsV RX4 117 RX0 yX0_nodeBehind wsX0_nodeBehind) := goodIn_app (goodIn_of _ (by decide +kernel)) ggX4_look_X0_nodeBehind
set_option maxRecDepth 20000 in
theorem ggX4_look_X0_endInto : GoodIn wsX4_look wsX0_endInto := goodIn_r _ [133, 90, 34, 35, 28, 36, 163, 164, 165, 166, 167, 168, 169, 170, 171, 172, 173, 174] (by decide +kernel) (by decide +kernel)
set_option maxRecDepth 20000 in
theorem gX4_look_X0_endInto : GoodIn wsX4_look (wsV RX4 120 RX0 yX0_endInto wsX0_endInto) := goodIn_app (goodIn_of _ (by decide +kernel)) ggX4_look_X0_endInto
set_option maxRecDepth 20000 in
theorem ggX4_look_X0_goInto : GoodIn wsX4_look wsX0_goInto := goodIn_r _ [137, 91, 34, 35, 28, 36, 163, 164, 165, 166, 167, 168, 169, 170, 171, 172, 173, 174] (by decide +kernel) (by decide +kernel)
set_option maxRecDepth 20000 in
theorem gX4_look_X0_goInto : GoodIn wsX4_look (wsV RX4 124 RX0 yX0_goInto wsX0_goInto) := goodIn_app (goodIn_of _ (by decide +kernel)) ggX4_look_X0_goInto
set_option maxRecDepth 20000 in
theorem ggX4_look_X1_markOfEnd : GoodIn wsX4_look wsX1_markOfEnd := goodIn_r _ [141, 101, 78, 79, 80, 54, 81, 82, 175, 176, 177, 178, 179, 180, 181, 182, 183, 184, 185] (by decide +kernel) (by decide +kernel)
set_option maxRecDepth 20000 in
theorem gX4_look_X1_markOfEnd : GoodIn wsX4_look (wsV RX4 127 RX1 yX1_markOfEnd wsX1_markOfEnd) := goodIn_app (goodIn_of _ (by decide +kernel)) ggX4_look_X1_markOfEnd
set_option maxRecDepth 20000 in
theorem ggX4_look_X1_markOfGo : GoodIn wsX4_look wsX1_markOfGo := goodIn_r _ [145, 58, 59, 60, 61, 54, 62, 63, 175, 176, 177, 178, 179, 180, 181, 182, 183, 184, 185] (by decide +kernel) (by decide +kernel)
set_option maxRecDepth 20000 in
theorem gX4_look_X1_markOfGo : GoodIn wsX4_look (wsV RX4 130 RX1 yX1_markOfGo wsX1_markOfGo) := goodIn_app (goodIn_of _ (by decide +kernel)) ggX4_look_X1_markOfGo
set_option maxRecDepth 20000 in
theorem ggX4_look_X4_isRaised : GoodIn wsX4_look wsX4_isRaised := goodIn_r _ [149, 150, 13, 14, 15, 8, 16, 17, 18, 19, 20, 21, 10, 22, 23, 24, 153, 154, 155, 156, 157, 158, 159, 160, 161, 162] (by decide +kernel) (by decide +kernel)
set_option maxRecDepth 20000 in
theorem gX4_look_X4_isRaised : GoodIn wsX4_look (wsV RX4 133 RX4 yX4_isRaised wsX4_isRaised) := goodIn_app (goodIn_of _ (by decide +kernel)) ggX4_look_X4_isRaised
set_option maxRecDepth 20000 in
theorem ggX4_look_X4_stateOf : GoodIn wsX4_look wsX4_stateOf := goodIn_r _ [50] (by decide +kernel) (by decide +kernel)
set_option maxRecDepth 20000 in
theorem gX4_look_X4_stateOf : GoodIn wsX4_look (va_wsS RX4 137 yX4_stateOf wsX4_stateOf) := goodIn_app (goodIn_of _ (by decide +kernel)) ggX4_look_X4_stateOf
set_option maxRecDepth 20000 in
theorem ggX4_look_X4_quotesOf : GoodIn wsX4_look wsX4_quotesOf := goodIn_r _ [65] (by decide +kernel) (by decide +kernel)
set_option maxRecDepth 20000 in
theorem gX4_look_X4_quotesOf : GoodIn wsX4_look (va_wsS RX4 140 yX4_quotesOf wsX4_quotesOf) := goodIn_app (goodIn_of _ (by decide +kernel)) ggX4_look_X4_quotesOf
theorem dX4_look_0 : decode cX4_look 0 = .ok (.aload_n 0, 1) := by decide +kernel
theorem dX4_look_1 : decode cX4_look 1 = .ok (.invokevirtual 98, 3) := by decide +kernel
theorem dX4_look_4 : decode cX4_look 4 = .ok (.aload_n 0, 1) := by decide +kernel
theorem dX4_look_5 : decode cX4_look 5 = .ok (.iload_n 1, 1) := by decide +kernel
theorem dX4_look_6 : decode cX4_look 6 = .ok (.invokevirtual 78, 3) := by decide +kernel
theorem dX4_look_9 : decode cX4_look 9 = .ok (.ifCond .eq 13, 3) := by decide +kernel
theorem dX4_look_12 : decode cX4_look 12 = .ok (.aload_n 0, 1) := by decide +kernel
theorem dX4_look_13 : decode cX4_look 13 = .ok (.getfield 52, 3) := by decide +kernel
theorem dX4_look_16 : decode cX4_look 16 = .ok (.invokevirtual 101, 3) := by decide +kernel
theorem dX4_look_19 : decode cX4_look 19 = .ok (.ifCond .ne 11, 3) := by decide +kernel
theorem dX4_look_22 : decode cX4_look 22 = .ok (.new 114, 3) := by decide +kernel
theorem dX4_look_25 : decode cX4_look 25 = .ok (.dup, 1) := by decide +kernel
theorem dX4_look_26 : decode cX4_look 26 = .ok (.invokespecial 116, 3) := by decide +kernel
theorem dX4_look_29 : decode cX4_look 29 = .ok (.athrow, 1) := by decide +kernel
theorem dX4_look_30 : decode cX4_look 30 = .ok (.aload_n 0, 1) := by decide +kernel
theorem dX4_look_31 : decode cX4_look 31 = .ok (.getfield 52, 3) := by decide +kernel
theorem dX4_look_34 : decode cX4_look 34 = .ok (.iload_n 1, 1) := by decide +kernel
theorem dX4_look_35 : decode cX4_look 35 = .ok (.invokevirtual 117, 3) := by decide +kernel
theorem dX4_look_38 : decode cX4_look 38 = .ok (.istore_n 3, 1) := by decide +kernel
theorem dX4_look_39 : decode cX4_look 39 = .ok (.aload_n 0, 1) := by decide +kernel
theorem dX4_look_40 : decode cX4_look 40 = .ok (.getfield 52, 3) := by decide +kernel
theorem dX4_look_43 : decode cX4_look 43 = .ok (.iload_n 1, 1) := by decide +kernel
theorem dX4_look_44 : decode cX4_look 44 = .ok (.iconst 1, 1) := by decide +kernel
theorem dX4_look_45 : decode cX4_look 45 = .ok (.iadd, 1) := by decide +kernel
theorem dX4_look_46 : decode cX4_look 46 = .ok (.iload_n 3, 1) := by decide +kernel
theorem dX4_look_47 : decode cX4_look 47 = .ok (.invokevirtual 120, 3) := by decide +kernel
theorem dX4_look_50 : decode cX4_look 50 = .ok (.istore 4, 2) := by decide +kernel
theorem dX4_look_52 : decode cX4_look 52 = .ok (.aload_n 0, 1) := by decide +kernel
theorem dX4_look_53 : decode cX4_look 53 = .ok (.getfield 52, 3) := by decide +kernel
theorem dX4_look_56 : decode cX4_look 56 = .ok (.iload_n 1, 1) := by decide +kernel
theorem dX4_look_57 : decode cX4_look 57 = .ok (.iconst 1, 1) := by decide +kernel
theorem dX4_look_58 : decode cX4_look 58 = .ok (.iadd, 1) := by decide +kernel
theorem dX4_look_59 : decode cX4_look 59 = .ok (.iload_n 3, 1) := by decide +kernel
theorem dX4_look_60 : decode cX4_look 60 = .ok (.invokevirtual 124, 3) := by decide +kernel
theorem dX4_look_63 : decode cX4_look 63 = .ok (.istore 5, 2) := by decide +kernel
theorem dX4_look_65 : decode cX4_look 65 = .ok (.iload_n 2, 1) := by decide +kernel
theorem dX4_look_66 : decode cX4_look 66 = .ok (.tableswitch 110 0 6 #[42, 45, 48, 58, 68, 100, 105], 42) := by decide +kernel
theorem dX4_look_108 : decode cX4_look 108 = .ok (.iload 4, 2) := by decide +kernel
theorem dX4_look_110 : decode cX4_look 110 = .ok (.ireturn, 1) := by decide +kernel
theorem dX4_look_111 : decode cX4_look 111 = .ok (.iload 5, 2) := by decide +kernel
theorem dX4_look_113 : decode cX4_look 113 = .ok (.ireturn, 1) := by decide +kernel
theorem dX4_look_114 : decode cX4_look 114 = .ok (.aload_n 0, 1) := by decide +kernel
theorem dX4_look_115 : decode cX4_look 115 = .ok (.getfield 42, 3) := by decide +kernel
theorem dX4_look_118 : decode cX4_look 118 = .ok (.iload 4, 2) := by decide +kernel
theorem dX4_look_120 : decode cX4_look 120 = .ok (.invokevirtual 127, 3) := by decide +kernel
theorem dX4_look_123 : decode cX4_look 123 = .ok (.ireturn, 1) := by decide +kernel
theorem dX4_look_124 : decode cX4_look 124 = .ok (.aload_n 0, 1) := by decide +kernel
theorem dX4_look_125 : decode cX4_look 125 = .ok (.getfield 42, 3) := by decide +kernel
theorem dX4_look_128 : decode cX4_look 128 = .ok (.iload 5, 2) := by decide +kernel
theorem dX4_look_130 : decode cX4_look 130 = .ok (.invokevirtual 130, 3) := by decide +kernel
theorem dX4_look_133 : decode cX4_look 133 = .ok (.ireturn, 1) := by decide +kernel
theorem dX4_look_134 : decode cX4_look 134 = .ok (.aload_n 0, 1) := by decide +kernel
theorem dX4_look_135 : decode cX4_look 135 = .ok (.iload_n 1, 1) := by decide +kernel
theorem dX4_look_136 : decode cX4_look 136 = .ok (.aload_n 0, 1) := by decide +kernel
theorem dX4_look_137 : decode cX4_look 137 = .ok (.getfield 42, 3) := by decide +kernel
theorem dX4_look_140 : decode cX4_look 140 = .ok (.iload 4, 2) := by decide +kernel
theorem dX4_look_142 : decode cX4_look 142 = .ok (.invokevirtual 127, 3) := by decide +kernel
theorem dX4_look_145 : decode cX4_look 145 = .ok (.aload_n 0, 1) := by decide +kernel
theorem dX4_look_146 : decode cX4_look 146 = .ok (.getfield 42, 3) := by decide +kernel
theorem dX4_look_149 : decode cX4_look 149 = .ok (.iload 5, 2) := by decide +kernel
theorem dX4_look_151 : decode cX4_look 151 = .ok (.invokevirtual 130, 3) := by decide +kernel
theorem dX4_look_154 : decode cX4_look 154 = .ok (.invokevirtual 133, 3) := by decide +kernel
theorem dX4_look_157 : decode cX4_look 157 = .ok (.ifCond .eq 7, 3) := by decide +kernel
theorem dX4_look_160 : decode cX4_look 160 = .ok (.iconst 1, 1) := by decide +kernel
theorem dX4_look_161 : decode cX4_look 161 = .ok (.goto 4, 3) := by decide +kernel
theorem dX4_look_164 : decode cX4_look 164 = .ok (.iconst 0, 1) := by decide +kernel
theorem dX4_look_165 : decode cX4_look 165 = .ok (.ireturn, 1) := by decide +kernel
theorem dX4_look_166 : decode cX4_look 166 = .ok (.iload_n 3, 1) := by decide +kernel
theorem dX4_look_167 : decode cX4_look 167 = .ok (.invokestatic 137, 3) := by decide +kernel
theorem dX4_look_170 : decode cX4_look 170 = .ok (.ireturn, 1) := by decide +kernel
theorem dX4_look_171 : decode cX4_look 171 = .ok (.iload_n 3, 1) := by decide +kernel
theorem dX4_look_172 : decode cX4_look 172 = .ok (.invokestatic 140, 3) := by decide +kernel
theorem dX4_look_175 : decode cX4_look 175 = .ok (.ireturn, 1) := by decide +kernel
theorem dX4_look_176 : decode cX4_look 176 = .ok (.iconst (-1), 1) := by decide +kernel
theorem dX4_look_177 : decode cX4_look 177 = .ok (.ireturn, 1) := by decide +kernel
set_option maxRecDepth 20000 in
theorem ggX4_last_X4_solve : GoodIn wsX4_last wsX4_solve := goodIn_r _ [6, 1, 7, 8, 9, 10, 11, 12, 13, 5, 14, 15, 16, 17, 18, 19, 20, 21, 22, 23, 24, 25, 26, 27, 28, 29, 30, 31, 32, 33, 34, 35, 36, 37, 38, 39, 40, 41, 42, 43, 44, 45, 46, 47, 48, 49, 50, 51, 52, 53, 54, 55, 56, 57, 58, 59, 60, 61, 62, 63, 64, 65, 66, 67, 68, 69, 70, 71, 72, 73, 74, 75, 76, 77, 78, 79, 80, 81, 82, 83, 84, 85, 86, 87, 88, 89, 90, 91, 92, 93, 94, 95, 96, 97, 98, 99, 100, 101, 102, 103, 104, 105, 106, 107, 108, 109, 110, 111, 112, 113, 114, 115, 116, 117, 118, 119, 124, 125, 126, 127, 128, 129, 130, 131, 132, 133, 134, 135, 136, 137, 138, 139, 140, 141, 142, 143, 144, 145, 146, 147, 148, 149, 150, 151, 152, 153, 154, 155, 156] (by decide +kernel) (by decide +kernel)
set_option maxRecDepth 20000 in
theorem gX4_last_X4_solve : GoodIn wsX4_last (wsV RX4 98 RX4 yX4_solve wsX4_solve) := goodIn_app (goodIn_of _ (by decide +kernel)) ggX4_last_X4_solve
set_option maxRecDepth 20000 in
theorem ggX4_last_X0_isParted : GoodIn wsX4_last wsX0_isParted := goodIn_r _ [123, 112, 30, 134, 135, 136, 137, 138, 139, 140, 141, 142, 143, 144, 145] (by decide +kernel) (by decide +kernel)
set_option maxRecDepth 20000 in
theorem gX4_last_X0_isParted : GoodIn wsX4_last (wsV RX4 101 RX0 yX0_isParted wsX0_isParted) := goodIn_app (goodIn_of _ (by decide +kernel)) ggX4_last_X0_isParted
theorem dX4_last_0 : decode cX4_last 0 = .ok (.aload_n 0, 1) := by decide +kernel
theorem dX4_last_1 : decode cX4_last 1 = .ok (.invokevirtual 98, 3) := by decide +kernel
theorem dX4_last_4 : decode cX4_last 4 = .ok (.aload_n 0, 1) := by decide +kernel
theorem dX4_last_5 : decode cX4_last 5 = .ok (.getfield 52, 3) := by decide +kernel
theorem dX4_last_8 : decode cX4_last 8 = .ok (.invokevirtual 101, 3) := by decide +kernel
theorem dX4_last_11 : decode cX4_last 11 = .ok (.ifCond .eq 13, 3) := by decide +kernel
theorem dX4_last_14 : decode cX4_last 14 = .ok (.aload_n 0, 1) := by decide +kernel
theorem dX4_last_15 : decode cX4_last 15 = .ok (.getfield 52, 3) := by decide +kernel
theorem dX4_last_18 : decode cX4_last 18 = .ok (.getfield 143, 3) := by decide +kernel
theorem dX4_last_21 : decode cX4_last 21 = .ok (.goto 4, 3) := by decide +kernel
theorem dX4_last_24 : decode cX4_last 24 = .ok (.iconst (-1), 1) := by decide +kernel
theorem dX4_last_25 : decode cX4_last 25 = .ok (.ireturn, 1) := by decide +kernel
set_option maxRecDepth 20000 in
theorem ggX4_sentences_X4_solve : GoodIn wsX4_sentences wsX4_solve := goodIn_r _ [6, 1, 7, 8, 9, 10, 11, 12, 13, 5, 14, 15, 16, 17, 18, 19, 20, 21, 22, 23, 24, 25, 26, 27, 28, 29, 30, 31, 32, 33, 34, 35, 36, 37, 38, 39, 40, 41, 42, 43, 44, 45, 46, 47, 48, 49, 50, 51, 52, 53, 54, 55, 56, 57, 58, 59, 60, 61, 62, 63, 64, 65, 66, 67, 68, 69, 70, 71, 72, 73, 74, 75, 76, 77, 78, 79, 80, 81, 82, 83, 84, 85, 86, 87, 88, 89, 90, 91, 92, 93, 94, 95, 96, 97, 98, 99, 100, 101, 102, 103, 104, 105, 106, 107, 108, 109, 110, 111, 112, 113, 114, 115, 116, 117, 118, 119, 132, 133, 134, 135, 136, 137, 138, 139, 140, 141, 142, 143, 144, 145, 146, 147, 148, 149, 150, 151, 152, 153, 154, 155, 156, 157, 158, 159, 160, 161, 162, 163, 164] (by decide +kernel) (by decide +kernel)
set_option maxRecDepth 20000 in
theorem gX4_sentences_X4_solve : GoodIn wsX4_sentences (wsV RX4 98 RX4 yX4_solve wsX4_solve) := goodIn_app (goodIn_of _ (by decide +kernel)) ggX4_sentences_X4_solve
set_option maxRecDepth 20000 in
theorem ggX4_sentences_X0_isParted : GoodIn wsX4_sentences wsX0_isParted := goodIn_r _ [123, 112, 30, 142, 143, 144, 145, 146, 147, 148, 149, 150, 151, 152, 153] (by decide +kernel) (by decide +kernel)
set_option maxRecDepth 20000 in
theorem gX4_sentences_X0_isParted : GoodIn wsX4_sentences (wsV RX4 101 RX0 yX0_isParted wsX0_isParted) := goodIn_app (goodIn_of _ (by decide +kernel)) ggX4_sentences_X0_isParted
set_option maxRecDepth 20000 in
theorem ggX4_sentences_X0_endsInside : GoodIn wsX4_sentences wsX0_endsInside := goodIn_r _ [127, 114, 28, 87, 128, 129, 130, 26, 131, 88, 32, 33, 34, 142, 143, 144, 145, 146, 147, 148, 149, 150, 151, 152, 153] (by decide +kernel) (by decide +kernel)
set_option maxRecDepth 20000 in
theorem gX4_sentences_X0_endsInside : GoodIn wsX4_sentences (wsV RX4 146 RX0 yX0_endsInside wsX0_endsInside) := goodIn_app (goodIn_of _ (by decide +kernel)) ggX4_sentences_X0_endsInside
theorem dX4_sentences_0 : decode cX4_sentences 0 = .ok (.aload_n 0, 1) := by decide +kernel
theorem dX4_sentences_1 : decode cX4_sentences 1 = .ok (.invokevirtual 98, 3) := by decide +kernel
theorem dX4_sentences_4 : decode cX4_sentences 4 = .ok (.aload_n 0, 1) := by decide +kernel
theorem dX4_sentences_5 : decode cX4_sentences 5 = .ok (.getfield 52, 3) := by decide +kernel
theorem dX4_sentences_8 : decode cX4_sentences 8 = .ok (.invokevirtual 101, 3) := by decide +kernel
theorem dX4_sentences_11 : decode cX4_sentences 11 = .ok (.ifCond .eq 15, 3) := by decide +kernel
theorem dX4_sentences_14 : decode cX4_sentences 14 = .ok (.aload_n 0, 1) := by decide +kernel
theorem dX4_sentences_15 : decode cX4_sentences 15 = .ok (.getfield 52, 3) := by decide +kernel
theorem dX4_sentences_18 : decode cX4_sentences 18 = .ok (.invokevirtual 146, 3) := by decide +kernel
theorem dX4_sentences_21 : decode cX4_sentences 21 = .ok (.iconst 1, 1) := by decide +kernel
theorem dX4_sentences_22 : decode cX4_sentences 22 = .ok (.iadd, 1) := by decide +kernel
theorem dX4_sentences_23 : decode cX4_sentences 23 = .ok (.goto 4, 3) := by decide +kernel
theorem dX4_sentences_26 : decode cX4_sentences 26 = .ok (.iconst (-1), 1) := by decide +kernel
theorem dX4_sentences_27 : decode cX4_sentences 27 = .ok (.ireturn, 1) := by decide +kernel
set_option maxRecDepth 20000 in
theorem ggX4_settled_X4_solve : GoodIn wsX4_settled wsX4_solve := goodIn_r _ [7, 1, 8, 2, 9, 10, 11, 12, 13, 6, 14, 15, 16, 17, 18, 19, 20, 21, 22, 23, 24, 25, 26, 27, 28, 29, 30, 31, 32, 33, 34, 35, 36, 37, 38, 39, 40, 41, 42, 43, 44, 45, 46, 47, 48, 49, 50, 51, 52, 53, 54, 55, 56, 57, 58, 59, 60, 61, 62, 63, 64, 65, 66, 67, 68, 69, 70, 71, 72, 73, 74, 75, 76, 77, 78, 79, 80, 81, 82, 83, 84, 85, 86, 87, 88, 89, 90, 91, 92, 93, 94, 95, 96, 97, 98, 99, 100, 101, 102, 103, 104, 105, 106, 107, 108, 109, 110, 111, 112, 113, 114, 115, 116, 117, 118, 119, 133, 134, 135, 136, 137, 138, 139, 140, 141, 142, 143, 144, 145, 146, 147, 148, 149, 150, 151, 152, 153, 154, 155, 156, 157, 158, 159, 160, 161, 162, 163, 164, 165] (by decide +kernel) (by decide +kernel)
set_option maxRecDepth 20000 in
theorem gX4_settled_X4_solve : GoodIn wsX4_settled (wsV RX4 98 RX4 yX4_solve wsX4_solve) := goodIn_app (goodIn_of _ (by decide +kernel)) ggX4_settled_X4_solve
set_option maxRecDepth 20000 in
theorem ggX4_settled_X0_sharedSteps : GoodIn wsX4_settled wsX0_sharedSteps := goodIn_r _ [123, 28, 90, 91, 92, 93, 35, 36, 37, 26, 38, 29, 30, 32, 33, 34, 124, 125, 126, 52, 127, 128, 129, 130, 131, 132, 87, 143, 144, 145, 146, 147, 148, 149, 150, 151, 152, 153, 154, 155, 156, 157, 158, 159, 160, 161, 162, 163, 164, 165] (by decide +kernel) (by decide +kernel)
set_option maxRecDepth 20000 in
theorem gX4_settled_X0_sharedSteps : GoodIn wsX4_settled (wsV RX4 150 RX0 yX0_sharedSteps wsX0_sharedSteps) := goodIn_app (goodIn_of _ (by decide +kernel)) ggX4_settled_X0_sharedSteps
theorem dX4_settled_0 : decode cX4_settled 0 = .ok (.aload_n 0, 1) := by decide +kernel
theorem dX4_settled_1 : decode cX4_settled 1 = .ok (.invokevirtual 98, 3) := by decide +kernel
theorem dX4_settled_4 : decode cX4_settled 4 = .ok (.aload_n 0, 1) := by decide +kernel
theorem dX4_settled_5 : decode cX4_settled 5 = .ok (.getfield 52, 3) := by decide +kernel
theorem dX4_settled_8 : decode cX4_settled 8 = .ok (.aload_n 0, 1) := by decide +kernel
theorem dX4_settled_9 : decode cX4_settled 9 = .ok (.getfield 42, 3) := by decide +kernel
theorem dX4_settled_12 : decode cX4_settled 12 = .ok (.invokevirtual 150, 3) := by decide +kernel
theorem dX4_settled_15 : decode cX4_settled 15 = .ok (.ireturn, 1) := by decide +kernel
set_option maxRecDepth 20000 in
theorem ggX4_go_X1_hasGo : GoodIn wsX4_go wsX1_hasGo := goodIn_r _ [6, 7, 18, 19, 20, 21, 22, 23, 24, 25, 26, 27, 28] (by decide +kernel) (by decide +kernel)
set_option maxRecDepth 20000 in
theorem gX4_go_X1_hasGo : GoodIn wsX4_go (wsV RX4 153 RX1 yX1_hasGo wsX1_hasGo) := goodIn_app (goodIn_of _ (by decide +kernel)) ggX4_go_X1_hasGo
theorem dX4_go_0 : decode cX4_go 0 = .ok (.aload_n 0, 1) := by decide +kernel
theorem dX4_go_1 : decode cX4_go 1 = .ok (.getfield 42, 3) := by decide +kernel
theorem dX4_go_4 : decode cX4_go 4 = .ok (.iload_n 1, 1) := by decide +kernel
theorem dX4_go_5 : decode cX4_go 5 = .ok (.invokevirtual 153, 3) := by decide +kernel
theorem dX4_go_8 : decode cX4_go 8 = .ok (.ifCond .ne 5, 3) := by decide +kernel
theorem dX4_go_11 : decode cX4_go 11 = .ok (.iconst (-1), 1) := by decide +kernel
theorem dX4_go_12 : decode cX4_go 12 = .ok (.ireturn, 1) := by decide +kernel
theorem dX4_go_13 : decode cX4_go 13 = .ok (.iload_n 2, 1) := by decide +kernel
theorem dX4_go_14 : decode cX4_go 14 = .ok (.tableswitch 84 0 4 #[34, 44, 54, 64, 74], 34) := by decide +kernel
theorem dX4_go_48 : decode cX4_go 48 = .ok (.aload_n 0, 1) := by decide +kernel
theorem dX4_go_49 : decode cX4_go 49 = .ok (.getfield 42, 3) := by decide +kernel
theorem dX4_go_52 : decode cX4_go 52 = .ok (.getfield 156, 3) := by decide +kernel
theorem dX4_go_55 : decode cX4_go 55 = .ok (.iload_n 1, 1) := by decide +kernel
theorem dX4_go_56 : decode cX4_go 56 = .ok (.iaload, 1) := by decide +kernel
theorem dX4_go_57 : decode cX4_go 57 = .ok (.ireturn, 1) := by decide +kernel
theorem dX4_go_58 : decode cX4_go 58 = .ok (.aload_n 0, 1) := by decide +kernel
theorem dX4_go_59 : decode cX4_go 59 = .ok (.getfield 42, 3) := by decide +kernel
theorem dX4_go_62 : decode cX4_go 62 = .ok (.getfield 159, 3) := by decide +kernel
theorem dX4_go_65 : decode cX4_go 65 = .ok (.iload_n 1, 1) := by decide +kernel
theorem dX4_go_66 : decode cX4_go 66 = .ok (.iaload, 1) := by decide +kernel
theorem dX4_go_67 : decode cX4_go 67 = .ok (.ireturn, 1) := by decide +kernel
theorem dX4_go_68 : decode cX4_go 68 = .ok (.aload_n 0, 1) := by decide +kernel
theorem dX4_go_69 : decode cX4_go 69 = .ok (.getfield 42, 3) := by decide +kernel
theorem dX4_go_72 : decode cX4_go 72 = .ok (.getfield 162, 3) := by decide +kernel
theorem dX4_go_75 : decode cX4_go 75 = .ok (.iload_n 1, 1) := by decide +kernel
theorem dX4_go_76 : decode cX4_go 76 = .ok (.iaload, 1) := by decide +kernel
theorem dX4_go_77 : decode cX4_go 77 = .ok (.ireturn, 1) := by decide +kernel
theorem dX4_go_78 : decode cX4_go 78 = .ok (.aload_n 0, 1) := by decide +kernel
theorem dX4_go_79 : decode cX4_go 79 = .ok (.getfield 42, 3) := by decide +kernel
theorem dX4_go_82 : decode cX4_go 82 = .ok (.getfield 165, 3) := by decide +kernel
theorem dX4_go_85 : decode cX4_go 85 = .ok (.iload_n 1, 1) := by decide +kernel
theorem dX4_go_86 : decode cX4_go 86 = .ok (.iaload, 1) := by decide +kernel
theorem dX4_go_87 : decode cX4_go 87 = .ok (.ireturn, 1) := by decide +kernel
theorem dX4_go_88 : decode cX4_go 88 = .ok (.aload_n 0, 1) := by decide +kernel
theorem dX4_go_89 : decode cX4_go 89 = .ok (.getfield 42, 3) := by decide +kernel
theorem dX4_go_92 : decode cX4_go 92 = .ok (.getfield 168, 3) := by decide +kernel
theorem dX4_go_95 : decode cX4_go 95 = .ok (.iload_n 1, 1) := by decide +kernel
theorem dX4_go_96 : decode cX4_go 96 = .ok (.iaload, 1) := by decide +kernel
theorem dX4_go_97 : decode cX4_go 97 = .ok (.ireturn, 1) := by decide +kernel
theorem dX4_go_98 : decode cX4_go 98 = .ok (.iconst (-1), 1) := by decide +kernel
theorem dX4_go_99 : decode cX4_go 99 = .ok (.ireturn, 1) := by decide +kernel
set_option maxRecDepth 20000 in
theorem ggX4_count_X4_handMarks : GoodIn wsX4_count wsX4_handMarks := goodIn_r _ [8, 1, 9, 10, 11, 12, 13, 14, 15, 16, 17, 18, 19] (by decide +kernel) (by decide +kernel)
set_option maxRecDepth 20000 in
theorem gX4_count_X4_handMarks : GoodIn wsX4_count (wsV RX4 177 RX4 yX4_handMarks wsX4_handMarks) := goodIn_app (goodIn_of _ (by decide +kernel)) ggX4_count_X4_handMarks
theorem dX4_count_0 : decode cX4_count 0 = .ok (.iload_n 1, 1) := by decide +kernel
theorem dX4_count_1 : decode cX4_count 1 = .ok (.tableswitch 69 0 4 #[35, 40, 48, 56, 64], 35) := by decide +kernel
theorem dX4_count_36 : decode cX4_count 36 = .ok (.aload_n 0, 1) := by decide +kernel
theorem dX4_count_37 : decode cX4_count 37 = .ok (.getfield 74, 3) := by decide +kernel
theorem dX4_count_40 : decode cX4_count 40 = .ok (.ireturn, 1) := by decide +kernel
theorem dX4_count_41 : decode cX4_count 41 = .ok (.aload_n 0, 1) := by decide +kernel
theorem dX4_count_42 : decode cX4_count 42 = .ok (.getfield 42, 3) := by decide +kernel
theorem dX4_count_45 : decode cX4_count 45 = .ok (.getfield 171, 3) := by decide +kernel
theorem dX4_count_48 : decode cX4_count 48 = .ok (.ireturn, 1) := by decide +kernel
theorem dX4_count_49 : decode cX4_count 49 = .ok (.aload_n 0, 1) := by decide +kernel
theorem dX4_count_50 : decode cX4_count 50 = .ok (.getfield 42, 3) := by decide +kernel
theorem dX4_count_53 : decode cX4_count 53 = .ok (.getfield 174, 3) := by decide +kernel
theorem dX4_count_56 : decode cX4_count 56 = .ok (.ireturn, 1) := by decide +kernel
theorem dX4_count_57 : decode cX4_count 57 = .ok (.aload_n 0, 1) := by decide +kernel
theorem dX4_count_58 : decode cX4_count 58 = .ok (.getfield 26, 3) := by decide +kernel
theorem dX4_count_61 : decode cX4_count 61 = .ok (.getfield 85, 3) := by decide +kernel
theorem dX4_count_64 : decode cX4_count 64 = .ok (.ireturn, 1) := by decide +kernel
theorem dX4_count_65 : decode cX4_count 65 = .ok (.aload_n 0, 1) := by decide +kernel
theorem dX4_count_66 : decode cX4_count 66 = .ok (.invokevirtual 177, 3) := by decide +kernel
theorem dX4_count_69 : decode cX4_count 69 = .ok (.ireturn, 1) := by decide +kernel
theorem dX4_count_70 : decode cX4_count 70 = .ok (.iconst (-1), 1) := by decide +kernel
theorem dX4_count_71 : decode cX4_count 71 = .ok (.ireturn, 1) := by decide +kernel
theorem dX4_isWord_0 : decode cX4_isWord 0 = .ok (.iload_n 0, 1) := by decide +kernel
theorem dX4_isWord_1 : decode cX4_isWord 1 = .ok (.iconst 1, 1) := by decide +kernel
theorem dX4_isWord_2 : decode cX4_isWord 2 = .ok (.if_icmp .lt 13, 3) := by decide +kernel
theorem dX4_isWord_5 : decode cX4_isWord 5 = .ok (.iload_n 0, 1) := by decide +kernel
theorem dX4_isWord_6 : decode cX4_isWord 6 = .ok (.bipush 99, 2) := by decide +kernel
theorem dX4_isWord_8 : decode cX4_isWord 8 = .ok (.if_icmp .gt 7, 3) := by decide +kernel
theorem dX4_isWord_11 : decode cX4_isWord 11 = .ok (.iconst 1, 1) := by decide +kernel
theorem dX4_isWord_12 : decode cX4_isWord 12 = .ok (.goto 4, 3) := by decide +kernel
theorem dX4_isWord_15 : decode cX4_isWord 15 = .ok (.iconst 0, 1) := by decide +kernel
theorem dX4_isWord_16 : decode cX4_isWord 16 = .ok (.ireturn, 1) := by decide +kernel
theorem dX4_hasPlace_0 : decode cX4_hasPlace 0 = .ok (.iload_n 1, 1) := by decide +kernel
theorem dX4_hasPlace_1 : decode cX4_hasPlace 1 = .ok (.ifCond .lt 21, 3) := by decide +kernel
theorem dX4_hasPlace_4 : decode cX4_hasPlace 4 = .ok (.iload_n 1, 1) := by decide +kernel
theorem dX4_hasPlace_5 : decode cX4_hasPlace 5 = .ok (.aload_n 0, 1) := by decide +kernel
theorem dX4_hasPlace_6 : decode cX4_hasPlace 6 = .ok (.getfield 74, 3) := by decide +kernel
theorem dX4_hasPlace_9 : decode cX4_hasPlace 9 = .ok (.if_icmp .ge 13, 3) := by decide +kernel
theorem dX4_hasPlace_12 : decode cX4_hasPlace 12 = .ok (.iload_n 1, 1) := by decide +kernel
theorem dX4_hasPlace_13 : decode cX4_hasPlace 13 = .ok (.bipush 60, 2) := by decide +kernel
theorem dX4_hasPlace_15 : decode cX4_hasPlace 15 = .ok (.if_icmp .ge 7, 3) := by decide +kernel
theorem dX4_hasPlace_18 : decode cX4_hasPlace 18 = .ok (.iconst 1, 1) := by decide +kernel
theorem dX4_hasPlace_19 : decode cX4_hasPlace 19 = .ok (.goto 4, 3) := by decide +kernel
theorem dX4_hasPlace_22 : decode cX4_hasPlace 22 = .ok (.iconst 0, 1) := by decide +kernel
theorem dX4_hasPlace_23 : decode cX4_hasPlace 23 = .ok (.ireturn, 1) := by decide +kernel
set_option maxRecDepth 20000 in
theorem ggX4_wordAt_X4_hasPlace : GoodIn wsX4_wordAt wsX4_hasPlace := goodIn_r _ [6, 7, 8, 9, 10, 11, 12, 13, 14, 15, 16, 17] (by decide +kernel) (by decide +kernel)
set_option maxRecDepth 20000 in
theorem gX4_wordAt_X4_hasPlace : GoodIn wsX4_wordAt (wsV RX4 78 RX4 yX4_hasPlace wsX4_hasPlace) := goodIn_app (goodIn_of _ (by decide +kernel)) ggX4_wordAt_X4_hasPlace
theorem dX4_wordAt_0 : decode cX4_wordAt 0 = .ok (.aload_n 0, 1) := by decide +kernel
theorem dX4_wordAt_1 : decode cX4_wordAt 1 = .ok (.iload_n 1, 1) := by decide +kernel
theorem dX4_wordAt_2 : decode cX4_wordAt 2 = .ok (.invokevirtual 78, 3) := by decide +kernel
theorem dX4_wordAt_5 : decode cX4_wordAt 5 = .ok (.ifCond .eq 12, 3) := by decide +kernel
theorem dX4_wordAt_8 : decode cX4_wordAt 8 = .ok (.aload_n 0, 1) := by decide +kernel
theorem dX4_wordAt_9 : decode cX4_wordAt 9 = .ok (.getfield 17, 3) := by decide +kernel
theorem dX4_wordAt_12 : decode cX4_wordAt 12 = .ok (.iload_n 1, 1) := by decide +kernel
theorem dX4_wordAt_13 : decode cX4_wordAt 13 = .ok (.iaload, 1) := by decide +kernel
theorem dX4_wordAt_14 : decode cX4_wordAt 14 = .ok (.goto 4, 3) := by decide +kernel
theorem dX4_wordAt_17 : decode cX4_wordAt 17 = .ok (.iconst 0, 1) := by decide +kernel
theorem dX4_wordAt_18 : decode cX4_wordAt 18 = .ok (.ireturn, 1) := by decide +kernel
set_option maxRecDepth 20000 in
theorem ggX4_firstPlaceOf_X4_wordAt : GoodIn wsX4_firstPlaceOf wsX4_wordAt := goodIn_r _ [6, 7, 8, 9, 10, 5, 11, 1, 12, 13, 14, 15, 16, 17, 18, 19, 20, 21] (by decide +kernel) (by decide +kernel)
set_option maxRecDepth 20000 in
theorem gX4_firstPlaceOf_X4_wordAt : GoodIn wsX4_firstPlaceOf (wsV RX4 180 RX4 yX4_wordAt wsX4_wordAt) := goodIn_app (goodIn_of _ (by decide +kernel)) ggX4_firstPlaceOf_X4_wordAt
theorem dX4_firstPlaceOf_0 : decode cX4_firstPlaceOf 0 = .ok (.iconst 0, 1) := by decide +kernel
theorem dX4_firstPlaceOf_1 : decode cX4_firstPlaceOf 1 = .ok (.istore_n 2, 1) := by decide +kernel
theorem dX4_firstPlaceOf_2 : decode cX4_firstPlaceOf 2 = .ok (.iload_n 2, 1) := by decide +kernel
theorem dX4_firstPlaceOf_3 : decode cX4_firstPlaceOf 3 = .ok (.aload_n 0, 1) := by decide +kernel
theorem dX4_firstPlaceOf_4 : decode cX4_firstPlaceOf 4 = .ok (.getfield 74, 3) := by decide +kernel
theorem dX4_firstPlaceOf_7 : decode cX4_firstPlaceOf 7 = .ok (.if_icmp .ge 20, 3) := by decide +kernel
theorem dX4_firstPlaceOf_10 : decode cX4_firstPlaceOf 10 = .ok (.aload_n 0, 1) := by decide +kernel
theorem dX4_firstPlaceOf_11 : decode cX4_firstPlaceOf 11 = .ok (.iload_n 2, 1) := by decide +kernel
theorem dX4_firstPlaceOf_12 : decode cX4_firstPlaceOf 12 = .ok (.invokevirtual 180, 3) := by decide +kernel
theorem dX4_firstPlaceOf_15 : decode cX4_firstPlaceOf 15 = .ok (.iload_n 1, 1) := by decide +kernel
theorem dX4_firstPlaceOf_16 : decode cX4_firstPlaceOf 16 = .ok (.if_icmp .ne 5, 3) := by decide +kernel
theorem dX4_firstPlaceOf_19 : decode cX4_firstPlaceOf 19 = .ok (.iload_n 2, 1) := by decide +kernel
theorem dX4_firstPlaceOf_20 : decode cX4_firstPlaceOf 20 = .ok (.ireturn, 1) := by decide +kernel
theorem dX4_firstPlaceOf_21 : decode cX4_firstPlaceOf 21 = .ok (.iinc 2 1, 3) := by decide +kernel
theorem dX4_firstPlaceOf_24 : decode cX4_firstPlaceOf 24 = .ok (.goto (-22), 3) := by decide +kernel
theorem dX4_firstPlaceOf_27 : decode cX4_firstPlaceOf 27 = .ok (.aload_n 0, 1) := by decide +kernel
theorem dX4_firstPlaceOf_28 : decode cX4_firstPlaceOf 28 = .ok (.getfield 74, 3) := by decide +kernel
theorem dX4_firstPlaceOf_31 : decode cX4_firstPlaceOf 31 = .ok (.ireturn, 1) := by decide +kernel
theorem dX4_handMarks_0 : decode cX4_handMarks 0 = .ok (.iconst 0, 1) := by decide +kernel
theorem dX4_handMarks_1 : decode cX4_handMarks 1 = .ok (.istore_n 1, 1) := by decide +kernel
theorem dX4_handMarks_2 : decode cX4_handMarks 2 = .ok (.iconst 0, 1) := by decide +kernel
theorem dX4_handMarks_3 : decode cX4_handMarks 3 = .ok (.istore_n 2, 1) := by decide +kernel
theorem dX4_handMarks_4 : decode cX4_handMarks 4 = .ok (.iload_n 2, 1) := by decide +kernel
theorem dX4_handMarks_5 : decode cX4_handMarks 5 = .ok (.aload_n 0, 1) := by decide +kernel
theorem dX4_handMarks_6 : decode cX4_handMarks 6 = .ok (.getfield 74, 3) := by decide +kernel
theorem dX4_handMarks_9 : decode cX4_handMarks 9 = .ok (.if_icmp .ge 28, 3) := by decide +kernel
theorem dX4_handMarks_12 : decode cX4_handMarks 12 = .ok (.iload_n 2, 1) := by decide +kernel
theorem dX4_handMarks_13 : decode cX4_handMarks 13 = .ok (.bipush 60, 2) := by decide +kernel
theorem dX4_handMarks_15 : decode cX4_handMarks 15 = .ok (.if_icmp .ge 22, 3) := by decide +kernel
theorem dX4_handMarks_18 : decode cX4_handMarks 18 = .ok (.aload_n 0, 1) := by decide +kernel
theorem dX4_handMarks_19 : decode cX4_handMarks 19 = .ok (.getfield 20, 3) := by decide +kernel
theorem dX4_handMarks_22 : decode cX4_handMarks 22 = .ok (.iload_n 2, 1) := by decide +kernel
theorem dX4_handMarks_23 : decode cX4_handMarks 23 = .ok (.iaload, 1) := by decide +kernel
theorem dX4_handMarks_24 : decode cX4_handMarks 24 = .ok (.iconst (-1), 1) := by decide +kernel
theorem dX4_handMarks_25 : decode cX4_handMarks 25 = .ok (.if_icmp .eq 6, 3) := by decide +kernel
theorem dX4_handMarks_28 : decode cX4_handMarks 28 = .ok (.iinc 1 1, 3) := by decide +kernel
theorem dX4_handMarks_31 : decode cX4_handMarks 31 = .ok (.iinc 2 1, 3) := by decide +kernel
theorem dX4_handMarks_34 : decode cX4_handMarks 34 = .ok (.goto (-30), 3) := by decide +kernel
theorem dX4_handMarks_37 : decode cX4_handMarks 37 = .ok (.iload_n 1, 1) := by decide +kernel
theorem dX4_handMarks_38 : decode cX4_handMarks 38 = .ok (.ireturn, 1) := by decide +kernel
set_option maxRecDepth 20000 in
theorem ggX4_isRaised_X4_wordAt : GoodIn wsX4_isRaised wsX4_wordAt := goodIn_r _ [6, 7, 8, 9, 10, 5, 11, 12, 16, 17, 18, 19, 20, 21, 22, 23, 24, 25] (by decide +kernel) (by decide +kernel)
set_option maxRecDepth 20000 in
theorem gX4_isRaised_X4_wordAt : GoodIn wsX4_isRaised (wsV RX4 180 RX4 yX4_wordAt wsX4_wordAt) := goodIn_app (goodIn_of _ (by decide +kernel)) ggX4_isRaised_X4_wordAt
set_option maxRecDepth 20000 in
theorem ggX4_isRaised_X4_isWord : GoodIn wsX4_isRaised wsX4_isWord := goodIn_r _ [15] (by decide +kernel) (by decide +kernel)
set_option maxRecDepth 20000 in
theorem gX4_isRaised_X4_isWord : GoodIn wsX4_isRaised (va_wsS RX4 62 yX4_isWord wsX4_isWord) := goodIn_app (goodIn_of _ (by decide +kernel)) ggX4_isRaised_X4_isWord
theorem dX4_isRaised_0 : decode cX4_isRaised 0 = .ok (.aload_n 0, 1) := by decide +kernel
theorem dX4_isRaised_1 : decode cX4_isRaised 1 = .ok (.iload_n 1, 1) := by decide +kernel
theorem dX4_isRaised_2 : decode cX4_isRaised 2 = .ok (.invokevirtual 180, 3) := by decide +kernel
theorem dX4_isRaised_5 : decode cX4_isRaised 5 = .ok (.istore 4, 2) := by decide +kernel
theorem dX4_isRaised_7 : decode cX4_isRaised 7 = .ok (.iload 4, 2) := by decide +kernel
theorem dX4_isRaised_9 : decode cX4_isRaised 9 = .ok (.invokestatic 62, 3) := by decide +kernel
theorem dX4_isRaised_12 : decode cX4_isRaised 12 = .ok (.ifCond .eq 17, 3) := by decide +kernel
theorem dX4_isRaised_15 : decode cX4_isRaised 15 = .ok (.aload_n 0, 1) := by decide +kernel
theorem dX4_isRaised_16 : decode cX4_isRaised 16 = .ok (.getfield 13, 3) := by decide +kernel
theorem dX4_isRaised_19 : decode cX4_isRaised 19 = .ok (.iload 4, 2) := by decide +kernel
theorem dX4_isRaised_21 : decode cX4_isRaised 21 = .ok (.baload, 1) := by decide +kernel
theorem dX4_isRaised_22 : decode cX4_isRaised 22 = .ok (.ifCond .eq 7, 3) := by decide +kernel
theorem dX4_isRaised_25 : decode cX4_isRaised 25 = .ok (.iconst 1, 1) := by decide +kernel
theorem dX4_isRaised_26 : decode cX4_isRaised 26 = .ok (.goto 4, 3) := by decide +kernel
theorem dX4_isRaised_29 : decode cX4_isRaised 29 = .ok (.iconst 0, 1) := by decide +kernel
theorem dX4_isRaised_30 : decode cX4_isRaised 30 = .ok (.istore 5, 2) := by decide +kernel
theorem dX4_isRaised_32 : decode cX4_isRaised 32 = .ok (.iload 5, 2) := by decide +kernel
theorem dX4_isRaised_34 : decode cX4_isRaised 34 = .ok (.ifCond .ne 22, 3) := by decide +kernel
theorem dX4_isRaised_37 : decode cX4_isRaised 37 = .ok (.iload_n 1, 1) := by decide +kernel
theorem dX4_isRaised_38 : decode cX4_isRaised 38 = .ok (.ifCond .eq 18, 3) := by decide +kernel
theorem dX4_isRaised_41 : decode cX4_isRaised 41 = .ok (.iload_n 2, 1) := by decide +kernel
theorem dX4_isRaised_42 : decode cX4_isRaised 42 = .ok (.iconst 4, 1) := by decide +kernel
theorem dX4_isRaised_43 : decode cX4_isRaised 43 = .ok (.if_icmp .eq 13, 3) := by decide +kernel
theorem dX4_isRaised_46 : decode cX4_isRaised 46 = .ok (.iload_n 2, 1) := by decide +kernel
theorem dX4_isRaised_47 : decode cX4_isRaised 47 = .ok (.iconst 5, 1) := by decide +kernel
theorem dX4_isRaised_48 : decode cX4_isRaised 48 = .ok (.if_icmp .eq 8, 3) := by decide +kernel
theorem dX4_isRaised_51 : decode cX4_isRaised 51 = .ok (.iload_n 3, 1) := by decide +kernel
theorem dX4_isRaised_52 : decode cX4_isRaised 52 = .ok (.iconst 2, 1) := by decide +kernel
theorem dX4_isRaised_53 : decode cX4_isRaised 53 = .ok (.if_icmp .ne 7, 3) := by decide +kernel
theorem dX4_isRaised_56 : decode cX4_isRaised 56 = .ok (.iconst 1, 1) := by decide +kernel
theorem dX4_isRaised_57 : decode cX4_isRaised 57 = .ok (.goto 4, 3) := by decide +kernel
theorem dX4_isRaised_60 : decode cX4_isRaised 60 = .ok (.iconst 0, 1) := by decide +kernel
theorem dX4_isRaised_61 : decode cX4_isRaised 61 = .ok (.ireturn, 1) := by decide +kernel
set_option maxRecDepth 20000 in
theorem ggX4_solve_X4_wordAt : GoodIn wsX4_solve wsX4_wordAt := goodIn_r _ [10, 11, 12, 13, 14, 9, 15, 2, 116, 117, 118, 119, 120, 121, 122, 123, 124, 125] (by decide +kernel) (by decide +kernel)
set_option maxRecDepth 20000 in
theorem gX4_solve_X4_wordAt : GoodIn wsX4_solve (wsV RX4 180 RX4 yX4_wordAt wsX4_wordAt) := goodIn_app (goodIn_of _ (by decide +kernel)) ggX4_solve_X4_wordAt
set_option maxRecDepth 20000 in
theorem ggX4_solve_X4_isWord : GoodIn wsX4_solve wsX4_isWord := goodIn_r _ [18] (by decide +kernel) (by decide +kernel)
set_option maxRecDepth 20000 in
theorem gX4_solve_X4_isWord : GoodIn wsX4_solve (va_wsS RX4 62 yX4_isWord wsX4_isWord) := goodIn_app (goodIn_of _ (by decide +kernel)) ggX4_solve_X4_isWord
set_option maxRecDepth 20000 in
theorem ggX4_solve_X0_extend : GoodIn wsX4_solve wsX0_extend := goodIn_r _ [23, 24, 25, 26, 27, 28, 29, 22, 30, 31, 32, 33, 34, 35, 36, 37, 38, 39, 40, 41, 42, 43, 9, 44, 45, 46, 47, 48, 49, 50, 51, 52, 53, 54, 55, 56, 57, 58, 59, 60, 61, 62, 63, 64, 65, 66, 67, 68, 69, 70, 71, 72, 73, 74, 75, 76, 77, 78, 79, 80, 81, 82, 83, 84, 85, 86, 87, 88, 89, 90, 91, 92, 93, 94, 95, 96, 97, 98, 99, 100, 101, 102, 103, 126, 127, 128, 129, 130, 131, 132, 133, 134, 135, 136, 137, 138, 139, 140, 141, 142, 143, 144, 145, 146, 147, 148] (by decide +kernel) (by decide +kernel)
set_option maxRecDepth 20000 in
theorem gX4_solve_X0_extend : GoodIn wsX4_solve (wsV RX4 186 RX0 yX0_extend wsX0_extend) := goodIn_app (goodIn_of _ (by decide +kernel)) ggX4_solve_X0_extend
set_option maxRecDepth 20000 in
theorem ggX4_solve_X0_finish : GoodIn wsX4_solve wsX0_finish := goodIn_r _ [107, 26, 108, 109, 110, 111, 24, 65, 9, 66, 31, 32, 33, 22, 34, 25, 28, 29, 30, 90, 91, 92, 48, 93, 94, 95, 72, 73, 74, 75, 76, 67, 68, 69, 70, 71, 112, 113, 114, 115, 81, 86, 87, 88, 89, 27, 126, 127, 128, 129, 130, 131, 132, 133, 134, 135, 136, 137, 138, 139, 140, 141, 142, 143, 144, 145, 146, 147, 148] (by decide +kernel) (by decide +kernel)
set_option maxRecDepth 20000 in
theorem gX4_solve_X0_finish : GoodIn wsX4_solve (wsV RX4 190 RX0 yX0_finish wsX0_finish) := goodIn_app (goodIn_of _ (by decide +kernel)) ggX4_solve_X0_finish
theorem dX4_solve_0 : decode cX4_solve 0 = .ok (.aload_n 0, 1) := by decide +kernel
theorem dX4_solve_1 : decode cX4_solve 1 = .ok (.getfield 52, 3) := by decide +kernel
theorem dX4_solve_4 : decode cX4_solve 4 = .ok (.getfield 183, 3) := by decide +kernel
theorem dX4_solve_7 : decode cX4_solve 7 = .ok (.istore_n 1, 1) := by decide +kernel
theorem dX4_solve_8 : decode cX4_solve 8 = .ok (.iload_n 1, 1) := by decide +kernel
theorem dX4_solve_9 : decode cX4_solve 9 = .ok (.aload_n 0, 1) := by decide +kernel
theorem dX4_solve_10 : decode cX4_solve 10 = .ok (.getfield 74, 3) := by decide +kernel
theorem dX4_solve_13 : decode cX4_solve 13 = .ok (.if_icmp .ge 55, 3) := by decide +kernel
theorem dX4_solve_16 : decode cX4_solve 16 = .ok (.iload_n 1, 1) := by decide +kernel
theorem dX4_solve_17 : decode cX4_solve 17 = .ok (.bipush 60, 2) := by decide +kernel
theorem dX4_solve_19 : decode cX4_solve 19 = .ok (.if_icmp .ge 49, 3) := by decide +kernel
theorem dX4_solve_22 : decode cX4_solve 22 = .ok (.aload_n 0, 1) := by decide +kernel
theorem dX4_solve_23 : decode cX4_solve 23 = .ok (.iload_n 1, 1) := by decide +kernel
theorem dX4_solve_24 : decode cX4_solve 24 = .ok (.invokevirtual 180, 3) := by decide +kernel
theorem dX4_solve_27 : decode cX4_solve 27 = .ok (.istore_n 2, 1) := by decide +kernel
theorem dX4_solve_28 : decode cX4_solve 28 = .ok (.aload_n 0, 1) := by decide +kernel
theorem dX4_solve_29 : decode cX4_solve 29 = .ok (.getfield 52, 3) := by decide +kernel
theorem dX4_solve_32 : decode cX4_solve 32 = .ok (.aload_n 0, 1) := by decide +kernel
theorem dX4_solve_33 : decode cX4_solve 33 = .ok (.getfield 42, 3) := by decide +kernel
theorem dX4_solve_36 : decode cX4_solve 36 = .ok (.iload_n 2, 1) := by decide +kernel
theorem dX4_solve_37 : decode cX4_solve 37 = .ok (.invokestatic 62, 3) := by decide +kernel
theorem dX4_solve_40 : decode cX4_solve 40 = .ok (.ifCond .eq 12, 3) := by decide +kernel
theorem dX4_solve_43 : decode cX4_solve 43 = .ok (.aload_n 0, 1) := by decide +kernel
theorem dX4_solve_44 : decode cX4_solve 44 = .ok (.getfield 9, 3) := by decide +kernel
theorem dX4_solve_47 : decode cX4_solve 47 = .ok (.iload_n 2, 1) := by decide +kernel
theorem dX4_solve_48 : decode cX4_solve 48 = .ok (.iaload, 1) := by decide +kernel
theorem dX4_solve_49 : decode cX4_solve 49 = .ok (.goto 4, 3) := by decide +kernel
theorem dX4_solve_52 : decode cX4_solve 52 = .ok (.iconst 0, 1) := by decide +kernel
theorem dX4_solve_53 : decode cX4_solve 53 = .ok (.aload_n 0, 1) := by decide +kernel
theorem dX4_solve_54 : decode cX4_solve 54 = .ok (.getfield 20, 3) := by decide +kernel
theorem dX4_solve_57 : decode cX4_solve 57 = .ok (.iload_n 1, 1) := by decide +kernel
theorem dX4_solve_58 : decode cX4_solve 58 = .ok (.iaload, 1) := by decide +kernel
theorem dX4_solve_59 : decode cX4_solve 59 = .ok (.invokevirtual 186, 3) := by decide +kernel
theorem dX4_solve_62 : decode cX4_solve 62 = .ok (.iinc 1 1, 3) := by decide +kernel
theorem dX4_solve_65 : decode cX4_solve 65 = .ok (.goto (-57), 3) := by decide +kernel
theorem dX4_solve_68 : decode cX4_solve 68 = .ok (.aload_n 0, 1) := by decide +kernel
theorem dX4_solve_69 : decode cX4_solve 69 = .ok (.getfield 52, 3) := by decide +kernel
theorem dX4_solve_72 : decode cX4_solve 72 = .ok (.aload_n 0, 1) := by decide +kernel
theorem dX4_solve_73 : decode cX4_solve 73 = .ok (.getfield 42, 3) := by decide +kernel
theorem dX4_solve_76 : decode cX4_solve 76 = .ok (.invokevirtual 190, 3) := by decide +kernel
theorem dX4_solve_79 : decode cX4_solve 79 = .ok (.return_, 1) := by decide +kernel
theorem dX4_nodeOf_0 : decode cX4_nodeOf 0 = .ok (.iload_n 0, 1) := by decide +kernel
theorem dX4_nodeOf_1 : decode cX4_nodeOf 1 = .ok (.iconst 2, 1) := by decide +kernel
theorem dX4_nodeOf_2 : decode cX4_nodeOf 2 = .ok (.imul, 1) := by decide +kernel
end
section
theorem dX4_nodeOf_3 : decode cX4_nodeOf 3 = .ok (.iload_n 1, 1) := by decide +kernel
theorem dX4_nodeOf_4 : decode cX4_nodeOf 4 = .ok (.iadd, 1) := by decide +kernel
theorem dX4_nodeOf_5 : decode cX4_nodeOf 5 = .ok (.ireturn, 1) := by decide +kernel
theorem dX4_stateOf_0 : decode cX4_stateOf 0 = .ok (.iload_n 0, 1) := by decide +kernel
theorem dX4_stateOf_1 : decode cX4_stateOf 1 = .ok (.iconst 1, 1) := by decide +kernel
theorem dX4_stateOf_2 : decode cX4_stateOf 2 = .ok (.ishr, 1) := by decide +kernel
theorem dX4_stateOf_3 : decode cX4_stateOf 3 = .ok (.ireturn, 1) := by decide +kernel
theorem dX4_quotesOf_0 : decode cX4_quotesOf 0 = .ok (.iload_n 0, 1) := by decide +kernel
theorem dX4_quotesOf_1 : decode cX4_quotesOf 1 = .ok (.iconst 1, 1) := by decide +kernel
theorem dX4_quotesOf_2 : decode cX4_quotesOf 2 = .ok (.iand, 1) := by decide +kernel
theorem dX4_quotesOf_3 : decode cX4_quotesOf 3 = .ok (.ireturn, 1) := by decide +kernel
theorem dX5_thrown_0 : decode cX5_thrown 0 = .ok (.aload_n 0, 1) := by decide +kernel
theorem dX5_thrown_1 : decode cX5_thrown 1 = .ok (.getfield 1, 3) := by decide +kernel
theorem dX5_thrown_4 : decode cX5_thrown 4 = .ok (.ireturn, 1) := by decide +kernel
set_option maxRecDepth 20000 in
theorem ggX5_feed_X5_lay : GoodIn wsX5_feed wsX5_lay := goodIn_r _ [7, 2, 8, 9, 10, 11, 12, 13, 14, 15, 16, 17, 18, 19, 20, 21, 22, 23, 24, 25, 26, 27, 28, 29, 30, 31, 32, 33, 34, 35, 36, 37, 38] (by decide +kernel) (by decide +kernel)
set_option maxRecDepth 20000 in
theorem gX5_feed_X5_lay : GoodIn wsX5_feed (wsV RX5 7 RX5 yX5_lay wsX5_lay) := goodIn_app (goodIn_of _ (by decide +kernel)) ggX5_feed_X5_lay
theorem dX5_feed_0 : decode cX5_feed 0 = .ok (.aload_n 0, 1) := by decide +kernel
theorem dX5_feed_1 : decode cX5_feed 1 = .ok (.iconst 0, 1) := by decide +kernel
theorem dX5_feed_2 : decode cX5_feed 2 = .ok (.putfield 1, 3) := by decide +kernel
theorem dX5_feed_5 : decode cX5_feed 5 = .ok (.aload_n 0, 1) := by decide +kernel
theorem dX5_feed_6 : decode cX5_feed 6 = .ok (.lload_n 1, 1) := by decide +kernel
theorem dX5_feed_7 : decode cX5_feed 7 = .ok (.invokevirtual 7, 3) := by decide +kernel
theorem dX5_feed_10 : decode cX5_feed 10 = .ok (.aload_n 0, 1) := by decide +kernel
theorem dX5_feed_11 : decode cX5_feed 11 = .ok (.lload_n 3, 1) := by decide +kernel
theorem dX5_feed_12 : decode cX5_feed 12 = .ok (.invokevirtual 7, 3) := by decide +kernel
theorem dX5_feed_15 : decode cX5_feed 15 = .ok (.aload_n 0, 1) := by decide +kernel
theorem dX5_feed_16 : decode cX5_feed 16 = .ok (.lload 5, 2) := by decide +kernel
theorem dX5_feed_18 : decode cX5_feed 18 = .ok (.invokevirtual 7, 3) := by decide +kernel
theorem dX5_feed_21 : decode cX5_feed 21 = .ok (.aload_n 0, 1) := by decide +kernel
theorem dX5_feed_22 : decode cX5_feed 22 = .ok (.getfield 11, 3) := by decide +kernel
theorem dX5_feed_25 : decode cX5_feed 25 = .ok (.ireturn, 1) := by decide +kernel
theorem dX5_lay_0 : decode cX5_lay 0 = .ok (.bipush 56, 2) := by decide +kernel
theorem dX5_lay_2 : decode cX5_lay 2 = .ok (.istore_n 3, 1) := by decide +kernel
theorem dX5_lay_3 : decode cX5_lay 3 = .ok (.iload_n 3, 1) := by decide +kernel
theorem dX5_lay_4 : decode cX5_lay 4 = .ok (.ifCond .lt 71, 3) := by decide +kernel
theorem dX5_lay_7 : decode cX5_lay 7 = .ok (.lload_n 1, 1) := by decide +kernel
theorem dX5_lay_8 : decode cX5_lay 8 = .ok (.iload_n 3, 1) := by decide +kernel
theorem dX5_lay_9 : decode cX5_lay 9 = .ok (.lshr, 1) := by decide +kernel
theorem dX5_lay_10 : decode cX5_lay 10 = .ok (.l2i, 1) := by decide +kernel
theorem dX5_lay_11 : decode cX5_lay 11 = .ok (.sipush 255, 3) := by decide +kernel
theorem dX5_lay_14 : decode cX5_lay 14 = .ok (.iand, 1) := by decide +kernel
theorem dX5_lay_15 : decode cX5_lay 15 = .ok (.istore 4, 2) := by decide +kernel
theorem dX5_lay_17 : decode cX5_lay 17 = .ok (.iload 4, 2) := by decide +kernel
theorem dX5_lay_19 : decode cX5_lay 19 = .ok (.bipush 10, 2) := by decide +kernel
theorem dX5_lay_21 : decode cX5_lay 21 = .ok (.if_icmp .eq 17, 3) := by decide +kernel
theorem dX5_lay_24 : decode cX5_lay 24 = .ok (.iload 4, 2) := by decide +kernel
theorem dX5_lay_26 : decode cX5_lay 26 = .ok (.bipush 32, 2) := by decide +kernel
theorem dX5_lay_28 : decode cX5_lay 28 = .ok (.if_icmp .lt 41, 3) := by decide +kernel
theorem dX5_lay_31 : decode cX5_lay 31 = .ok (.iload 4, 2) := by decide +kernel
theorem dX5_lay_33 : decode cX5_lay 33 = .ok (.bipush 126, 2) := by decide +kernel
theorem dX5_lay_35 : decode cX5_lay 35 = .ok (.if_icmp .gt 34, 3) := by decide +kernel
theorem dX5_lay_38 : decode cX5_lay 38 = .ok (.aload_n 0, 1) := by decide +kernel
theorem dX5_lay_39 : decode cX5_lay 39 = .ok (.getfield 11, 3) := by decide +kernel
theorem dX5_lay_42 : decode cX5_lay 42 = .ok (.sipush 1600, 3) := by decide +kernel
theorem dX5_lay_45 : decode cX5_lay 45 = .ok (.if_icmp .ge 24, 3) := by decide +kernel
theorem dX5_lay_48 : decode cX5_lay 48 = .ok (.aload_n 0, 1) := by decide +kernel
theorem dX5_lay_49 : decode cX5_lay 49 = .ok (.getfield 14, 3) := by decide +kernel
theorem dX5_lay_52 : decode cX5_lay 52 = .ok (.aload_n 0, 1) := by decide +kernel
theorem dX5_lay_53 : decode cX5_lay 53 = .ok (.getfield 11, 3) := by decide +kernel
theorem dX5_lay_56 : decode cX5_lay 56 = .ok (.iload 4, 2) := by decide +kernel
theorem dX5_lay_58 : decode cX5_lay 58 = .ok (.iastore, 1) := by decide +kernel
theorem dX5_lay_59 : decode cX5_lay 59 = .ok (.aload_n 0, 1) := by decide +kernel
theorem dX5_lay_60 : decode cX5_lay 60 = .ok (.dup, 1) := by decide +kernel
theorem dX5_lay_61 : decode cX5_lay 61 = .ok (.getfield 11, 3) := by decide +kernel
theorem dX5_lay_64 : decode cX5_lay 64 = .ok (.iconst 1, 1) := by decide +kernel
theorem dX5_lay_65 : decode cX5_lay 65 = .ok (.iadd, 1) := by decide +kernel
theorem dX5_lay_66 : decode cX5_lay 66 = .ok (.putfield 11, 3) := by decide +kernel
theorem dX5_lay_69 : decode cX5_lay 69 = .ok (.iinc 3 (-8), 3) := by decide +kernel
theorem dX5_lay_72 : decode cX5_lay 72 = .ok (.goto (-69), 3) := by decide +kernel
theorem dX5_lay_75 : decode cX5_lay 75 = .ok (.return_, 1) := by decide +kernel
theorem dX5_init_0 : decode cX5_init 0 = .ok (.aload_n 0, 1) := by decide +kernel
theorem dX5_init_1 : decode cX5_init 1 = .ok (.invokespecial 18, 3) := by decide +kernel
theorem dX5_init_4 : decode cX5_init 4 = .ok (.aload_n 0, 1) := by decide +kernel
theorem dX5_init_5 : decode cX5_init 5 = .ok (.sipush 1600, 3) := by decide +kernel
theorem dX5_init_8 : decode cX5_init 8 = .ok (.newarray .int, 2) := by decide +kernel
theorem dX5_init_10 : decode cX5_init 10 = .ok (.putfield 14, 3) := by decide +kernel
theorem dX5_init_13 : decode cX5_init 13 = .ok (.aload_n 0, 1) := by decide +kernel
theorem dX5_init_14 : decode cX5_init 14 = .ok (.sipush 1602, 3) := by decide +kernel
theorem dX5_init_17 : decode cX5_init 17 = .ok (.newarray .int, 2) := by decide +kernel
theorem dX5_init_19 : decode cX5_init 19 = .ok (.putfield 24, 3) := by decide +kernel
theorem dX5_init_22 : decode cX5_init 22 = .ok (.aload_n 0, 1) := by decide +kernel
theorem dX5_init_23 : decode cX5_init 23 = .ok (.sipush 1602, 3) := by decide +kernel
theorem dX5_init_26 : decode cX5_init 26 = .ok (.newarray .int, 2) := by decide +kernel
theorem dX5_init_28 : decode cX5_init 28 = .ok (.putfield 27, 3) := by decide +kernel
theorem dX5_init_31 : decode cX5_init 31 = .ok (.aload_n 0, 1) := by decide +kernel
theorem dX5_init_32 : decode cX5_init 32 = .ok (.sipush 1602, 3) := by decide +kernel
theorem dX5_init_35 : decode cX5_init 35 = .ok (.newarray .long, 2) := by decide +kernel
theorem dX5_init_37 : decode cX5_init 37 = .ok (.putfield 30, 3) := by decide +kernel
theorem dX5_init_40 : decode cX5_init 40 = .ok (.aload_n 0, 1) := by decide +kernel
theorem dX5_init_41 : decode cX5_init 41 = .ok (.bipush 12, 2) := by decide +kernel
theorem dX5_init_43 : decode cX5_init 43 = .ok (.newarray .long, 2) := by decide +kernel
theorem dX5_init_45 : decode cX5_init 45 = .ok (.dup, 1) := by decide +kernel
theorem dX5_init_46 : decode cX5_init 46 = .ok (.iconst 0, 1) := by decide +kernel
theorem dX5_init_47 : decode cX5_init 47 = .ok (.ldc2_w 34, 3) := by decide +kernel
theorem dX5_init_50 : decode cX5_init 50 = .ok (.lastore, 1) := by decide +kernel
theorem dX5_init_51 : decode cX5_init 51 = .ok (.dup, 1) := by decide +kernel
theorem dX5_init_52 : decode cX5_init 52 = .ok (.iconst 1, 1) := by decide +kernel
theorem dX5_init_53 : decode cX5_init 53 = .ok (.ldc2_w 36, 3) := by decide +kernel
theorem dX5_init_56 : decode cX5_init 56 = .ok (.lastore, 1) := by decide +kernel
theorem dX5_init_57 : decode cX5_init 57 = .ok (.dup, 1) := by decide +kernel
theorem dX5_init_58 : decode cX5_init 58 = .ok (.iconst 2, 1) := by decide +kernel
theorem dX5_init_59 : decode cX5_init 59 = .ok (.ldc2_w 38, 3) := by decide +kernel
theorem dX5_init_62 : decode cX5_init 62 = .ok (.lastore, 1) := by decide +kernel
theorem dX5_init_63 : decode cX5_init 63 = .ok (.dup, 1) := by decide +kernel
theorem dX5_init_64 : decode cX5_init 64 = .ok (.iconst 3, 1) := by decide +kernel
theorem dX5_init_65 : decode cX5_init 65 = .ok (.ldc2_w 40, 3) := by decide +kernel
theorem dX5_init_68 : decode cX5_init 68 = .ok (.lastore, 1) := by decide +kernel
theorem dX5_init_69 : decode cX5_init 69 = .ok (.dup, 1) := by decide +kernel
theorem dX5_init_70 : decode cX5_init 70 = .ok (.iconst 4, 1) := by decide +kernel
theorem dX5_init_71 : decode cX5_init 71 = .ok (.ldc2_w 42, 3) := by decide +kernel
theorem dX5_init_74 : decode cX5_init 74 = .ok (.lastore, 1) := by decide +kernel
theorem dX5_init_75 : decode cX5_init 75 = .ok (.dup, 1) := by decide +kernel
theorem dX5_init_76 : decode cX5_init 76 = .ok (.iconst 5, 1) := by decide +kernel
theorem dX5_init_77 : decode cX5_init 77 = .ok (.ldc2_w 44, 3) := by decide +kernel
theorem dX5_init_80 : decode cX5_init 80 = .ok (.lastore, 1) := by decide +kernel
theorem dX5_init_81 : decode cX5_init 81 = .ok (.dup, 1) := by decide +kernel
theorem dX5_init_82 : decode cX5_init 82 = .ok (.bipush 6, 2) := by decide +kernel
theorem dX5_init_84 : decode cX5_init 84 = .ok (.ldc2_w 46, 3) := by decide +kernel
theorem dX5_init_87 : decode cX5_init 87 = .ok (.lastore, 1) := by decide +kernel
theorem dX5_init_88 : decode cX5_init 88 = .ok (.dup, 1) := by decide +kernel
theorem dX5_init_89 : decode cX5_init 89 = .ok (.bipush 7, 2) := by decide +kernel
theorem dX5_init_91 : decode cX5_init 91 = .ok (.ldc2_w 48, 3) := by decide +kernel
theorem dX5_init_94 : decode cX5_init 94 = .ok (.lastore, 1) := by decide +kernel
theorem dX5_init_95 : decode cX5_init 95 = .ok (.dup, 1) := by decide +kernel
theorem dX5_init_96 : decode cX5_init 96 = .ok (.bipush 8, 2) := by decide +kernel
theorem dX5_init_98 : decode cX5_init 98 = .ok (.ldc2_w 50, 3) := by decide +kernel
theorem dX5_init_101 : decode cX5_init 101 = .ok (.lastore, 1) := by decide +kernel
theorem dX5_init_102 : decode cX5_init 102 = .ok (.dup, 1) := by decide +kernel
theorem dX5_init_103 : decode cX5_init 103 = .ok (.bipush 9, 2) := by decide +kernel
theorem dX5_init_105 : decode cX5_init 105 = .ok (.ldc2_w 52, 3) := by decide +kernel
theorem dX5_init_108 : decode cX5_init 108 = .ok (.lastore, 1) := by decide +kernel
theorem dX5_init_109 : decode cX5_init 109 = .ok (.dup, 1) := by decide +kernel
theorem dX5_init_110 : decode cX5_init 110 = .ok (.bipush 10, 2) := by decide +kernel
theorem dX5_init_112 : decode cX5_init 112 = .ok (.ldc2_w 54, 3) := by decide +kernel
theorem dX5_init_115 : decode cX5_init 115 = .ok (.lastore, 1) := by decide +kernel
theorem dX5_init_116 : decode cX5_init 116 = .ok (.dup, 1) := by decide +kernel
theorem dX5_init_117 : decode cX5_init 117 = .ok (.bipush 11, 2) := by decide +kernel
theorem dX5_init_119 : decode cX5_init 119 = .ok (.ldc2_w 56, 3) := by decide +kernel
theorem dX5_init_122 : decode cX5_init 122 = .ok (.lastore, 1) := by decide +kernel
theorem dX5_init_123 : decode cX5_init 123 = .ok (.putfield 58, 3) := by decide +kernel
theorem dX5_init_126 : decode cX5_init 126 = .ok (.aload_n 0, 1) := by decide +kernel
theorem dX5_init_127 : decode cX5_init 127 = .ok (.iconst 2, 1) := by decide +kernel
theorem dX5_init_128 : decode cX5_init 128 = .ok (.newarray .int, 2) := by decide +kernel
theorem dX5_init_130 : decode cX5_init 130 = .ok (.putfield 61, 3) := by decide +kernel
theorem dX5_init_133 : decode cX5_init 133 = .ok (.aload_n 0, 1) := by decide +kernel
theorem dX5_init_134 : decode cX5_init 134 = .ok (.sipush 400, 3) := by decide +kernel
theorem dX5_init_137 : decode cX5_init 137 = .ok (.newarray .int, 2) := by decide +kernel
theorem dX5_init_139 : decode cX5_init 139 = .ok (.putfield 64, 3) := by decide +kernel
theorem dX5_init_142 : decode cX5_init 142 = .ok (.aload_n 0, 1) := by decide +kernel
theorem dX5_init_143 : decode cX5_init 143 = .ok (.iconst 2, 1) := by decide +kernel
theorem dX5_init_144 : decode cX5_init 144 = .ok (.newarray .int, 2) := by decide +kernel
theorem dX5_init_146 : decode cX5_init 146 = .ok (.putfield 67, 3) := by decide +kernel
theorem dX5_init_149 : decode cX5_init 149 = .ok (.aload_n 0, 1) := by decide +kernel
theorem dX5_init_150 : decode cX5_init 150 = .ok (.bipush 60, 2) := by decide +kernel
theorem dX5_init_152 : decode cX5_init 152 = .ok (.newarray .int, 2) := by decide +kernel
theorem dX5_init_154 : decode cX5_init 154 = .ok (.putfield 70, 3) := by decide +kernel
theorem dX5_init_157 : decode cX5_init 157 = .ok (.aload_n 0, 1) := by decide +kernel
theorem dX5_init_158 : decode cX5_init 158 = .ok (.bipush 100, 2) := by decide +kernel
theorem dX5_init_160 : decode cX5_init 160 = .ok (.newarray .int, 2) := by decide +kernel
theorem dX5_init_162 : decode cX5_init 162 = .ok (.putfield 73, 3) := by decide +kernel
theorem dX5_init_165 : decode cX5_init 165 = .ok (.aload_n 0, 1) := by decide +kernel
theorem dX5_init_166 : decode cX5_init 166 = .ok (.bipush 100, 2) := by decide +kernel
theorem dX5_init_168 : decode cX5_init 168 = .ok (.newarray .boolean, 2) := by decide +kernel
theorem dX5_init_170 : decode cX5_init 170 = .ok (.putfield 76, 3) := by decide +kernel
theorem dX5_init_173 : decode cX5_init 173 = .ok (.aload_n 0, 1) := by decide +kernel
theorem dX5_init_174 : decode cX5_init 174 = .ok (.bipush 60, 2) := by decide +kernel
theorem dX5_init_176 : decode cX5_init 176 = .ok (.newarray .int, 2) := by decide +kernel
theorem dX5_init_178 : decode cX5_init 178 = .ok (.putfield 80, 3) := by decide +kernel
theorem dX5_init_181 : decode cX5_init 181 = .ok (.aload_n 0, 1) := by decide +kernel
theorem dX5_init_182 : decode cX5_init 182 = .ok (.bipush 60, 2) := by decide +kernel
theorem dX5_init_184 : decode cX5_init 184 = .ok (.newarray .int, 2) := by decide +kernel
theorem dX5_init_186 : decode cX5_init 186 = .ok (.putfield 83, 3) := by decide +kernel
theorem dX5_init_189 : decode cX5_init 189 = .ok (.aload_n 0, 1) := by decide +kernel
theorem dX5_init_190 : decode cX5_init 190 = .ok (.sipush 1220, 3) := by decide +kernel
theorem dX5_init_193 : decode cX5_init 193 = .ok (.newarray .int, 2) := by decide +kernel
theorem dX5_init_195 : decode cX5_init 195 = .ok (.putfield 86, 3) := by decide +kernel
theorem dX5_init_198 : decode cX5_init 198 = .ok (.aload_n 0, 1) := by decide +kernel
theorem dX5_init_199 : decode cX5_init 199 = .ok (.sipush 1220, 3) := by decide +kernel
theorem dX5_init_202 : decode cX5_init 202 = .ok (.newarray .int, 2) := by decide +kernel
theorem dX5_init_204 : decode cX5_init 204 = .ok (.putfield 89, 3) := by decide +kernel
theorem dX5_init_207 : decode cX5_init 207 = .ok (.aload_n 0, 1) := by decide +kernel
theorem dX5_init_208 : decode cX5_init 208 = .ok (.bipush 60, 2) := by decide +kernel
theorem dX5_init_210 : decode cX5_init 210 = .ok (.newarray .int, 2) := by decide +kernel
theorem dX5_init_212 : decode cX5_init 212 = .ok (.putfield 92, 3) := by decide +kernel
theorem dX5_init_215 : decode cX5_init 215 = .ok (.aload_n 0, 1) := by decide +kernel
theorem dX5_init_216 : decode cX5_init 216 = .ok (.bipush 60, 2) := by decide +kernel
theorem dX5_init_218 : decode cX5_init 218 = .ok (.newarray .int, 2) := by decide +kernel
theorem dX5_init_220 : decode cX5_init 220 = .ok (.putfield 95, 3) := by decide +kernel
theorem dX5_init_223 : decode cX5_init 223 = .ok (.aload_n 0, 1) := by decide +kernel
theorem dX5_init_224 : decode cX5_init 224 = .ok (.bipush 60, 2) := by decide +kernel
theorem dX5_init_226 : decode cX5_init 226 = .ok (.newarray .int, 2) := by decide +kernel
theorem dX5_init_228 : decode cX5_init 228 = .ok (.putfield 98, 3) := by decide +kernel
theorem dX5_init_231 : decode cX5_init 231 = .ok (.aload_n 0, 1) := by decide +kernel
theorem dX5_init_232 : decode cX5_init 232 = .ok (.bipush 20, 2) := by decide +kernel
theorem dX5_init_234 : decode cX5_init 234 = .ok (.newarray .boolean, 2) := by decide +kernel
theorem dX5_init_236 : decode cX5_init 236 = .ok (.putfield 101, 3) := by decide +kernel
theorem dX5_init_239 : decode cX5_init 239 = .ok (.aload_n 0, 1) := by decide +kernel
theorem dX5_init_240 : decode cX5_init 240 = .ok (.bipush 60, 2) := by decide +kernel
theorem dX5_init_242 : decode cX5_init 242 = .ok (.newarray .int, 2) := by decide +kernel
theorem dX5_init_244 : decode cX5_init 244 = .ok (.putfield 104, 3) := by decide +kernel
theorem dX5_init_247 : decode cX5_init 247 = .ok (.aload_n 0, 1) := by decide +kernel
theorem dX5_init_248 : decode cX5_init 248 = .ok (.bipush 60, 2) := by decide +kernel
theorem dX5_init_250 : decode cX5_init 250 = .ok (.newarray .int, 2) := by decide +kernel
theorem dX5_init_252 : decode cX5_init 252 = .ok (.putfield 107, 3) := by decide +kernel
theorem dX5_init_255 : decode cX5_init 255 = .ok (.iconst 1, 1) := by decide +kernel
theorem dX5_init_256 : decode cX5_init 256 = .ok (.istore_n 1, 1) := by decide +kernel
theorem dX5_init_257 : decode cX5_init 257 = .ok (.iload_n 1, 1) := by decide +kernel
theorem dX5_init_258 : decode cX5_init 258 = .ok (.bipush 100, 2) := by decide +kernel
theorem dX5_init_260 : decode cX5_init 260 = .ok (.if_icmp .ge 16, 3) := by decide +kernel
theorem dX5_init_263 : decode cX5_init 263 = .ok (.aload_n 0, 1) := by decide +kernel
theorem dX5_init_264 : decode cX5_init 264 = .ok (.getfield 73, 3) := by decide +kernel
theorem dX5_init_267 : decode cX5_init 267 = .ok (.iload_n 1, 1) := by decide +kernel
theorem dX5_init_268 : decode cX5_init 268 = .ok (.iconst 1, 1) := by decide +kernel
theorem dX5_init_269 : decode cX5_init 269 = .ok (.iastore, 1) := by decide +kernel
theorem dX5_init_270 : decode cX5_init 270 = .ok (.iinc 1 1, 3) := by decide +kernel
theorem dX5_init_273 : decode cX5_init 273 = .ok (.goto (-16), 3) := by decide +kernel
theorem dX5_init_276 : decode cX5_init 276 = .ok (.return_, 1) := by decide +kernel
theorem dX5_isLetter_0 : decode cX5_isLetter 0 = .ok (.iload_n 0, 1) := by decide +kernel
theorem dX5_isLetter_1 : decode cX5_isLetter 1 = .ok (.bipush 97, 2) := by decide +kernel
theorem dX5_isLetter_3 : decode cX5_isLetter 3 = .ok (.if_icmp .lt 13, 3) := by decide +kernel
theorem dX5_isLetter_6 : decode cX5_isLetter 6 = .ok (.iload_n 0, 1) := by decide +kernel
theorem dX5_isLetter_7 : decode cX5_isLetter 7 = .ok (.bipush 122, 2) := by decide +kernel
theorem dX5_isLetter_9 : decode cX5_isLetter 9 = .ok (.if_icmp .gt 7, 3) := by decide +kernel
theorem dX5_isLetter_12 : decode cX5_isLetter 12 = .ok (.iconst 1, 1) := by decide +kernel
theorem dX5_isLetter_13 : decode cX5_isLetter 13 = .ok (.goto 4, 3) := by decide +kernel
theorem dX5_isLetter_16 : decode cX5_isLetter 16 = .ok (.iconst 0, 1) := by decide +kernel
theorem dX5_isLetter_17 : decode cX5_isLetter 17 = .ok (.ireturn, 1) := by decide +kernel
theorem dX5_isDigit_0 : decode cX5_isDigit 0 = .ok (.iload_n 0, 1) := by decide +kernel
theorem dX5_isDigit_1 : decode cX5_isDigit 1 = .ok (.bipush 48, 2) := by decide +kernel
theorem dX5_isDigit_3 : decode cX5_isDigit 3 = .ok (.if_icmp .lt 13, 3) := by decide +kernel
theorem dX5_isDigit_6 : decode cX5_isDigit 6 = .ok (.iload_n 0, 1) := by decide +kernel
theorem dX5_isDigit_7 : decode cX5_isDigit 7 = .ok (.bipush 57, 2) := by decide +kernel
theorem dX5_isDigit_9 : decode cX5_isDigit 9 = .ok (.if_icmp .gt 7, 3) := by decide +kernel
theorem dX5_isDigit_12 : decode cX5_isDigit 12 = .ok (.iconst 1, 1) := by decide +kernel
theorem dX5_isDigit_13 : decode cX5_isDigit 13 = .ok (.goto 4, 3) := by decide +kernel
theorem dX5_isDigit_16 : decode cX5_isDigit 16 = .ok (.iconst 0, 1) := by decide +kernel
theorem dX5_isDigit_17 : decode cX5_isDigit 17 = .ok (.ireturn, 1) := by decide +kernel
set_option maxRecDepth 20000 in
theorem ggX5_rank_X5_isLetter : GoodIn wsX5_rank wsX5_isLetter := goodIn_r _ [4] (by decide +kernel) (by decide +kernel)
set_option maxRecDepth 20000 in
theorem gX5_rank_X5_isLetter : GoodIn wsX5_rank (va_wsS RX5 110 yX5_isLetter wsX5_isLetter) := goodIn_app (goodIn_of _ (by decide +kernel)) ggX5_rank_X5_isLetter
theorem dX5_rank_0 : decode cX5_rank 0 = .ok (.iload_n 0, 1) := by decide +kernel
theorem dX5_rank_1 : decode cX5_rank 1 = .ok (.invokestatic 110, 3) := by decide +kernel
theorem dX5_rank_4 : decode cX5_rank 4 = .ok (.ifCond .eq 10, 3) := by decide +kernel
theorem dX5_rank_7 : decode cX5_rank 7 = .ok (.iload_n 0, 1) := by decide +kernel
theorem dX5_rank_8 : decode cX5_rank 8 = .ok (.bipush 96, 2) := by decide +kernel
theorem dX5_rank_10 : decode cX5_rank 10 = .ok (.isub, 1) := by decide +kernel
theorem dX5_rank_11 : decode cX5_rank 11 = .ok (.goto 7, 3) := by decide +kernel
theorem dX5_rank_14 : decode cX5_rank 14 = .ok (.iload_n 0, 1) := by decide +kernel
theorem dX5_rank_15 : decode cX5_rank 15 = .ok (.bipush 21, 2) := by decide +kernel
theorem dX5_rank_17 : decode cX5_rank 17 = .ok (.isub, 1) := by decide +kernel
theorem dX5_rank_18 : decode cX5_rank 18 = .ok (.ireturn, 1) := by decide +kernel
theorem dX5_isSignOf_0 : decode cX5_isSignOf 0 = .ok (.iload_n 0, 1) := by decide +kernel
theorem dX5_isSignOf_1 : decode cX5_isSignOf 1 = .ok (.bipush 59, 2) := by decide +kernel
theorem dX5_isSignOf_3 : decode cX5_isSignOf 3 = .ok (.if_icmp .ne 7, 3) := by decide +kernel
theorem dX5_isSignOf_6 : decode cX5_isSignOf 6 = .ok (.iconst 1, 1) := by decide +kernel
theorem dX5_isSignOf_7 : decode cX5_isSignOf 7 = .ok (.goto 4, 3) := by decide +kernel
theorem dX5_isSignOf_10 : decode cX5_isSignOf 10 = .ok (.iconst 0, 1) := by decide +kernel
theorem dX5_isSignOf_11 : decode cX5_isSignOf 11 = .ok (.ireturn, 1) := by decide +kernel
set_option maxRecDepth 20000 in
theorem ggX5_cutAll_X5_isLetter : GoodIn wsX5_cutAll wsX5_isLetter := goodIn_r _ [15] (by decide +kernel) (by decide +kernel)
set_option maxRecDepth 20000 in
theorem gX5_cutAll_X5_isLetter : GoodIn wsX5_cutAll (va_wsS RX5 110 yX5_isLetter wsX5_isLetter) := goodIn_app (goodIn_of _ (by decide +kernel)) ggX5_cutAll_X5_isLetter
set_option maxRecDepth 20000 in
theorem ggX5_cutAll_X5_rank : GoodIn wsX5_cutAll wsX5_rank := goodIn_r _ [18, 12, 13, 14, 15] (by decide +kernel) (by decide +kernel)
set_option maxRecDepth 20000 in
theorem gX5_cutAll_X5_rank : GoodIn wsX5_cutAll (va_wsS RX5 119 yX5_rank wsX5_rank) := goodIn_app (goodIn_of _ (by decide +kernel)) ggX5_cutAll_X5_rank
set_option maxRecDepth 20000 in
theorem ggX5_cutAll_X5_isDigit : GoodIn wsX5_cutAll wsX5_isDigit := goodIn_r _ [21] (by decide +kernel) (by decide +kernel)
set_option maxRecDepth 20000 in
theorem gX5_cutAll_X5_isDigit : GoodIn wsX5_cutAll (va_wsS RX5 123 yX5_isDigit wsX5_isDigit) := goodIn_app (goodIn_of _ (by decide +kernel)) ggX5_cutAll_X5_isDigit
set_option maxRecDepth 20000 in
theorem ggX5_cutAll_X5_isSignOf : GoodIn wsX5_cutAll wsX5_isSignOf := goodIn_r _ [24] (by decide +kernel) (by decide +kernel)
set_option maxRecDepth 20000 in
theorem gX5_cutAll_X5_isSignOf : GoodIn wsX5_cutAll (va_wsS RX5 130 yX5_isSignOf wsX5_isSignOf) := goodIn_app (goodIn_of _ (by decide +kernel)) ggX5_cutAll_X5_isSignOf
theorem dX5_cutAll_0 : decode cX5_cutAll 0 = .ok (.aload_n 0, 1) := by decide +kernel
theorem dX5_cutAll_1 : decode cX5_cutAll 1 = .ok (.aload_n 0, 1) := by decide +kernel
theorem dX5_cutAll_2 : decode cX5_cutAll 2 = .ok (.getfield 11, 3) := by decide +kernel
theorem dX5_cutAll_5 : decode cX5_cutAll 5 = .ok (.putfield 114, 3) := by decide +kernel
theorem dX5_cutAll_8 : decode cX5_cutAll 8 = .ok (.aload_n 0, 1) := by decide +kernel
theorem dX5_cutAll_9 : decode cX5_cutAll 9 = .ok (.iconst 0, 1) := by decide +kernel
theorem dX5_cutAll_10 : decode cX5_cutAll 10 = .ok (.putfield 11, 3) := by decide +kernel
theorem dX5_cutAll_13 : decode cX5_cutAll 13 = .ok (.iconst 0, 1) := by decide +kernel
theorem dX5_cutAll_14 : decode cX5_cutAll 14 = .ok (.istore_n 1, 1) := by decide +kernel
theorem dX5_cutAll_15 : decode cX5_cutAll 15 = .ok (.iconst 0, 1) := by decide +kernel
theorem dX5_cutAll_16 : decode cX5_cutAll 16 = .ok (.istore_n 2, 1) := by decide +kernel
theorem dX5_cutAll_17 : decode cX5_cutAll 17 = .ok (.iload_n 2, 1) := by decide +kernel
theorem dX5_cutAll_18 : decode cX5_cutAll 18 = .ok (.aload_n 0, 1) := by decide +kernel
theorem dX5_cutAll_19 : decode cX5_cutAll 19 = .ok (.getfield 114, 3) := by decide +kernel
theorem dX5_cutAll_22 : decode cX5_cutAll 22 = .ok (.if_icmp .ge 257, 3) := by decide +kernel
theorem dX5_cutAll_25 : decode cX5_cutAll 25 = .ok (.aload_n 0, 1) := by decide +kernel
theorem dX5_cutAll_26 : decode cX5_cutAll 26 = .ok (.getfield 14, 3) := by decide +kernel
theorem dX5_cutAll_29 : decode cX5_cutAll 29 = .ok (.iload_n 2, 1) := by decide +kernel
theorem dX5_cutAll_30 : decode cX5_cutAll 30 = .ok (.iaload, 1) := by decide +kernel
theorem dX5_cutAll_31 : decode cX5_cutAll 31 = .ok (.istore_n 3, 1) := by decide +kernel
theorem dX5_cutAll_32 : decode cX5_cutAll 32 = .ok (.iload_n 3, 1) := by decide +kernel
theorem dX5_cutAll_33 : decode cX5_cutAll 33 = .ok (.bipush 10, 2) := by decide +kernel
theorem dX5_cutAll_35 : decode cX5_cutAll 35 = .ok (.if_icmp .eq 9, 3) := by decide +kernel
theorem dX5_cutAll_38 : decode cX5_cutAll 38 = .ok (.iload_n 3, 1) := by decide +kernel
theorem dX5_cutAll_39 : decode cX5_cutAll 39 = .ok (.bipush 32, 2) := by decide +kernel
theorem dX5_cutAll_41 : decode cX5_cutAll 41 = .ok (.if_icmp .ne 9, 3) := by decide +kernel
theorem dX5_cutAll_44 : decode cX5_cutAll 44 = .ok (.iinc 2 1, 3) := by decide +kernel
theorem dX5_cutAll_47 : decode cX5_cutAll 47 = .ok (.goto (-30), 3) := by decide +kernel
theorem dX5_cutAll_50 : decode cX5_cutAll 50 = .ok (.iload_n 2, 1) := by decide +kernel
theorem dX5_cutAll_51 : decode cX5_cutAll 51 = .ok (.istore 4, 2) := by decide +kernel
theorem dX5_cutAll_53 : decode cX5_cutAll 53 = .ok (.lconst 0, 1) := by decide +kernel
theorem dX5_cutAll_54 : decode cX5_cutAll 54 = .ok (.lstore 5, 2) := by decide +kernel
theorem dX5_cutAll_56 : decode cX5_cutAll 56 = .ok (.aload_n 0, 1) := by decide +kernel
theorem dX5_cutAll_57 : decode cX5_cutAll 57 = .ok (.getfield 27, 3) := by decide +kernel
theorem dX5_cutAll_60 : decode cX5_cutAll 60 = .ok (.iload_n 1, 1) := by decide +kernel
theorem dX5_cutAll_61 : decode cX5_cutAll 61 = .ok (.iload_n 2, 1) := by decide +kernel
theorem dX5_cutAll_62 : decode cX5_cutAll 62 = .ok (.iastore, 1) := by decide +kernel
theorem dX5_cutAll_63 : decode cX5_cutAll 63 = .ok (.iload_n 3, 1) := by decide +kernel
theorem dX5_cutAll_64 : decode cX5_cutAll 64 = .ok (.invokestatic 110, 3) := by decide +kernel
theorem dX5_cutAll_67 : decode cX5_cutAll 67 = .ok (.ifCond .eq 85, 3) := by decide +kernel
theorem dX5_cutAll_70 : decode cX5_cutAll 70 = .ok (.iload_n 2, 1) := by decide +kernel
theorem dX5_cutAll_71 : decode cX5_cutAll 71 = .ok (.aload_n 0, 1) := by decide +kernel
theorem dX5_cutAll_72 : decode cX5_cutAll 72 = .ok (.getfield 114, 3) := by decide +kernel
theorem dX5_cutAll_75 : decode cX5_cutAll 75 = .ok (.if_icmp .ge 54, 3) := by decide +kernel
theorem dX5_cutAll_78 : decode cX5_cutAll 78 = .ok (.aload_n 0, 1) := by decide +kernel
theorem dX5_cutAll_79 : decode cX5_cutAll 79 = .ok (.getfield 14, 3) := by decide +kernel
theorem dX5_cutAll_82 : decode cX5_cutAll 82 = .ok (.iload_n 2, 1) := by decide +kernel
theorem dX5_cutAll_83 : decode cX5_cutAll 83 = .ok (.iaload, 1) := by decide +kernel
theorem dX5_cutAll_84 : decode cX5_cutAll 84 = .ok (.invokestatic 110, 3) := by decide +kernel
theorem dX5_cutAll_87 : decode cX5_cutAll 87 = .ok (.ifCond .eq 42, 3) := by decide +kernel
theorem dX5_cutAll_90 : decode cX5_cutAll 90 = .ok (.iload_n 2, 1) := by decide +kernel
theorem dX5_cutAll_91 : decode cX5_cutAll 91 = .ok (.iload 4, 2) := by decide +kernel
theorem dX5_cutAll_93 : decode cX5_cutAll 93 = .ok (.isub, 1) := by decide +kernel
theorem dX5_cutAll_94 : decode cX5_cutAll 94 = .ok (.bipush 8, 2) := by decide +kernel
theorem dX5_cutAll_96 : decode cX5_cutAll 96 = .ok (.if_icmp .ge 23, 3) := by decide +kernel
theorem dX5_cutAll_99 : decode cX5_cutAll 99 = .ok (.ldc2_w 117, 3) := by decide +kernel
theorem dX5_cutAll_102 : decode cX5_cutAll 102 = .ok (.lload 5, 2) := by decide +kernel
theorem dX5_cutAll_104 : decode cX5_cutAll 104 = .ok (.lmul, 1) := by decide +kernel
theorem dX5_cutAll_105 : decode cX5_cutAll 105 = .ok (.aload_n 0, 1) := by decide +kernel
theorem dX5_cutAll_106 : decode cX5_cutAll 106 = .ok (.getfield 14, 3) := by decide +kernel
theorem dX5_cutAll_109 : decode cX5_cutAll 109 = .ok (.iload_n 2, 1) := by decide +kernel
theorem dX5_cutAll_110 : decode cX5_cutAll 110 = .ok (.iaload, 1) := by decide +kernel
theorem dX5_cutAll_111 : decode cX5_cutAll 111 = .ok (.invokestatic 119, 3) := by decide +kernel
theorem dX5_cutAll_114 : decode cX5_cutAll 114 = .ok (.i2l, 1) := by decide +kernel
theorem dX5_cutAll_115 : decode cX5_cutAll 115 = .ok (.ladd, 1) := by decide +kernel
theorem dX5_cutAll_116 : decode cX5_cutAll 116 = .ok (.goto 5, 3) := by decide +kernel
theorem dX5_cutAll_119 : decode cX5_cutAll 119 = .ok (.lload 5, 2) := by decide +kernel
theorem dX5_cutAll_121 : decode cX5_cutAll 121 = .ok (.lstore 5, 2) := by decide +kernel
theorem dX5_cutAll_123 : decode cX5_cutAll 123 = .ok (.iinc 2 1, 3) := by decide +kernel
theorem dX5_cutAll_126 : decode cX5_cutAll 126 = .ok (.goto (-56), 3) := by decide +kernel
theorem dX5_cutAll_129 : decode cX5_cutAll 129 = .ok (.aload_n 0, 1) := by decide +kernel
theorem dX5_cutAll_130 : decode cX5_cutAll 130 = .ok (.getfield 24, 3) := by decide +kernel
theorem dX5_cutAll_133 : decode cX5_cutAll 133 = .ok (.iload_n 1, 1) := by decide +kernel
theorem dX5_cutAll_134 : decode cX5_cutAll 134 = .ok (.iload_n 2, 1) := by decide +kernel
theorem dX5_cutAll_135 : decode cX5_cutAll 135 = .ok (.iload 4, 2) := by decide +kernel
theorem dX5_cutAll_137 : decode cX5_cutAll 137 = .ok (.isub, 1) := by decide +kernel
theorem dX5_cutAll_138 : decode cX5_cutAll 138 = .ok (.bipush 8, 2) := by decide +kernel
theorem dX5_cutAll_140 : decode cX5_cutAll 140 = .ok (.if_icmp .le 7, 3) := by decide +kernel
theorem dX5_cutAll_143 : decode cX5_cutAll 143 = .ok (.iconst 4, 1) := by decide +kernel
theorem dX5_cutAll_144 : decode cX5_cutAll 144 = .ok (.goto 4, 3) := by decide +kernel
theorem dX5_cutAll_147 : decode cX5_cutAll 147 = .ok (.iconst 1, 1) := by decide +kernel
theorem dX5_cutAll_148 : decode cX5_cutAll 148 = .ok (.iastore, 1) := by decide +kernel
theorem dX5_cutAll_149 : decode cX5_cutAll 149 = .ok (.goto 116, 3) := by decide +kernel
theorem dX5_cutAll_152 : decode cX5_cutAll 152 = .ok (.iload_n 3, 1) := by decide +kernel
theorem dX5_cutAll_153 : decode cX5_cutAll 153 = .ok (.invokestatic 123, 3) := by decide +kernel
theorem dX5_cutAll_156 : decode cX5_cutAll 156 = .ok (.ifCond .eq 84, 3) := by decide +kernel
theorem dX5_cutAll_159 : decode cX5_cutAll 159 = .ok (.iload_n 2, 1) := by decide +kernel
theorem dX5_cutAll_160 : decode cX5_cutAll 160 = .ok (.aload_n 0, 1) := by decide +kernel
theorem dX5_cutAll_161 : decode cX5_cutAll 161 = .ok (.getfield 114, 3) := by decide +kernel
theorem dX5_cutAll_164 : decode cX5_cutAll 164 = .ok (.if_icmp .ge 54, 3) := by decide +kernel
theorem dX5_cutAll_167 : decode cX5_cutAll 167 = .ok (.aload_n 0, 1) := by decide +kernel
theorem dX5_cutAll_168 : decode cX5_cutAll 168 = .ok (.getfield 14, 3) := by decide +kernel
theorem dX5_cutAll_171 : decode cX5_cutAll 171 = .ok (.iload_n 2, 1) := by decide +kernel
theorem dX5_cutAll_172 : decode cX5_cutAll 172 = .ok (.iaload, 1) := by decide +kernel
theorem dX5_cutAll_173 : decode cX5_cutAll 173 = .ok (.invokestatic 123, 3) := by decide +kernel
theorem dX5_cutAll_176 : decode cX5_cutAll 176 = .ok (.ifCond .eq 42, 3) := by decide +kernel
theorem dX5_cutAll_179 : decode cX5_cutAll 179 = .ok (.iload_n 2, 1) := by decide +kernel
theorem dX5_cutAll_180 : decode cX5_cutAll 180 = .ok (.iload 4, 2) := by decide +kernel
theorem dX5_cutAll_182 : decode cX5_cutAll 182 = .ok (.isub, 1) := by decide +kernel
theorem dX5_cutAll_183 : decode cX5_cutAll 183 = .ok (.iconst 4, 1) := by decide +kernel
theorem dX5_cutAll_184 : decode cX5_cutAll 184 = .ok (.if_icmp .ge 24, 3) := by decide +kernel
theorem dX5_cutAll_187 : decode cX5_cutAll 187 = .ok (.ldc2_w 126, 3) := by decide +kernel
theorem dX5_cutAll_190 : decode cX5_cutAll 190 = .ok (.lload 5, 2) := by decide +kernel
theorem dX5_cutAll_192 : decode cX5_cutAll 192 = .ok (.lmul, 1) := by decide +kernel
theorem dX5_cutAll_193 : decode cX5_cutAll 193 = .ok (.aload_n 0, 1) := by decide +kernel
theorem dX5_cutAll_194 : decode cX5_cutAll 194 = .ok (.getfield 14, 3) := by decide +kernel
theorem dX5_cutAll_197 : decode cX5_cutAll 197 = .ok (.iload_n 2, 1) := by decide +kernel
theorem dX5_cutAll_198 : decode cX5_cutAll 198 = .ok (.iaload, 1) := by decide +kernel
theorem dX5_cutAll_199 : decode cX5_cutAll 199 = .ok (.i2l, 1) := by decide +kernel
theorem dX5_cutAll_200 : decode cX5_cutAll 200 = .ok (.ladd, 1) := by decide +kernel
theorem dX5_cutAll_201 : decode cX5_cutAll 201 = .ok (.ldc2_w 128, 3) := by decide +kernel
theorem dX5_cutAll_204 : decode cX5_cutAll 204 = .ok (.lsub, 1) := by decide +kernel
theorem dX5_cutAll_205 : decode cX5_cutAll 205 = .ok (.goto 5, 3) := by decide +kernel
theorem dX5_cutAll_208 : decode cX5_cutAll 208 = .ok (.lload 5, 2) := by decide +kernel
theorem dX5_cutAll_210 : decode cX5_cutAll 210 = .ok (.lstore 5, 2) := by decide +kernel
theorem dX5_cutAll_212 : decode cX5_cutAll 212 = .ok (.iinc 2 1, 3) := by decide +kernel
theorem dX5_cutAll_215 : decode cX5_cutAll 215 = .ok (.goto (-56), 3) := by decide +kernel
theorem dX5_cutAll_218 : decode cX5_cutAll 218 = .ok (.aload_n 0, 1) := by decide +kernel
theorem dX5_cutAll_219 : decode cX5_cutAll 219 = .ok (.getfield 24, 3) := by decide +kernel
theorem dX5_cutAll_222 : decode cX5_cutAll 222 = .ok (.iload_n 1, 1) := by decide +kernel
theorem dX5_cutAll_223 : decode cX5_cutAll 223 = .ok (.iload_n 2, 1) := by decide +kernel
theorem dX5_cutAll_224 : decode cX5_cutAll 224 = .ok (.iload 4, 2) := by decide +kernel
theorem dX5_cutAll_226 : decode cX5_cutAll 226 = .ok (.isub, 1) := by decide +kernel
theorem dX5_cutAll_227 : decode cX5_cutAll 227 = .ok (.iconst 4, 1) := by decide +kernel
theorem dX5_cutAll_228 : decode cX5_cutAll 228 = .ok (.if_icmp .le 7, 3) := by decide +kernel
theorem dX5_cutAll_231 : decode cX5_cutAll 231 = .ok (.iconst 4, 1) := by decide +kernel
theorem dX5_cutAll_232 : decode cX5_cutAll 232 = .ok (.goto 4, 3) := by decide +kernel
theorem dX5_cutAll_235 : decode cX5_cutAll 235 = .ok (.iconst 2, 1) := by decide +kernel
theorem dX5_cutAll_236 : decode cX5_cutAll 236 = .ok (.iastore, 1) := by decide +kernel
theorem dX5_cutAll_237 : decode cX5_cutAll 237 = .ok (.goto 28, 3) := by decide +kernel
theorem dX5_cutAll_240 : decode cX5_cutAll 240 = .ok (.iload_n 3, 1) := by decide +kernel
theorem dX5_cutAll_241 : decode cX5_cutAll 241 = .ok (.i2l, 1) := by decide +kernel
theorem dX5_cutAll_242 : decode cX5_cutAll 242 = .ok (.lstore 5, 2) := by decide +kernel
theorem dX5_cutAll_244 : decode cX5_cutAll 244 = .ok (.aload_n 0, 1) := by decide +kernel
theorem dX5_cutAll_245 : decode cX5_cutAll 245 = .ok (.getfield 24, 3) := by decide +kernel
theorem dX5_cutAll_248 : decode cX5_cutAll 248 = .ok (.iload_n 1, 1) := by decide +kernel
theorem dX5_cutAll_249 : decode cX5_cutAll 249 = .ok (.iload_n 3, 1) := by decide +kernel
theorem dX5_cutAll_250 : decode cX5_cutAll 250 = .ok (.invokestatic 130, 3) := by decide +kernel
theorem dX5_cutAll_253 : decode cX5_cutAll 253 = .ok (.ifCond .eq 7, 3) := by decide +kernel
theorem dX5_cutAll_256 : decode cX5_cutAll 256 = .ok (.iconst 3, 1) := by decide +kernel
theorem dX5_cutAll_257 : decode cX5_cutAll 257 = .ok (.goto 4, 3) := by decide +kernel
theorem dX5_cutAll_260 : decode cX5_cutAll 260 = .ok (.iconst 4, 1) := by decide +kernel
theorem dX5_cutAll_261 : decode cX5_cutAll 261 = .ok (.iastore, 1) := by decide +kernel
theorem dX5_cutAll_262 : decode cX5_cutAll 262 = .ok (.iinc 2 1, 3) := by decide +kernel
theorem dX5_cutAll_265 : decode cX5_cutAll 265 = .ok (.aload_n 0, 1) := by decide +kernel
theorem dX5_cutAll_266 : decode cX5_cutAll 266 = .ok (.getfield 30, 3) := by decide +kernel
theorem dX5_cutAll_269 : decode cX5_cutAll 269 = .ok (.iload_n 1, 1) := by decide +kernel
theorem dX5_cutAll_270 : decode cX5_cutAll 270 = .ok (.lload 5, 2) := by decide +kernel
theorem dX5_cutAll_272 : decode cX5_cutAll 272 = .ok (.lastore, 1) := by decide +kernel
theorem dX5_cutAll_273 : decode cX5_cutAll 273 = .ok (.iinc 1 1, 3) := by decide +kernel
theorem dX5_cutAll_276 : decode cX5_cutAll 276 = .ok (.goto (-259), 3) := by decide +kernel
theorem dX5_cutAll_279 : decode cX5_cutAll 279 = .ok (.aload_n 0, 1) := by decide +kernel
theorem dX5_cutAll_280 : decode cX5_cutAll 280 = .ok (.getfield 24, 3) := by decide +kernel
theorem dX5_cutAll_283 : decode cX5_cutAll 283 = .ok (.iload_n 1, 1) := by decide +kernel
theorem dX5_cutAll_284 : decode cX5_cutAll 284 = .ok (.iconst 0, 1) := by decide +kernel
theorem dX5_cutAll_285 : decode cX5_cutAll 285 = .ok (.iastore, 1) := by decide +kernel
theorem dX5_cutAll_286 : decode cX5_cutAll 286 = .ok (.aload_n 0, 1) := by decide +kernel
theorem dX5_cutAll_287 : decode cX5_cutAll 287 = .ok (.getfield 27, 3) := by decide +kernel
theorem dX5_cutAll_290 : decode cX5_cutAll 290 = .ok (.iload_n 1, 1) := by decide +kernel
theorem dX5_cutAll_291 : decode cX5_cutAll 291 = .ok (.aload_n 0, 1) := by decide +kernel
theorem dX5_cutAll_292 : decode cX5_cutAll 292 = .ok (.getfield 114, 3) := by decide +kernel
theorem dX5_cutAll_295 : decode cX5_cutAll 295 = .ok (.iastore, 1) := by decide +kernel
theorem dX5_cutAll_296 : decode cX5_cutAll 296 = .ok (.aload_n 0, 1) := by decide +kernel
theorem dX5_cutAll_297 : decode cX5_cutAll 297 = .ok (.iconst 0, 1) := by decide +kernel
theorem dX5_cutAll_298 : decode cX5_cutAll 298 = .ok (.putfield 133, 3) := by decide +kernel
theorem dX5_cutAll_301 : decode cX5_cutAll 301 = .ok (.aload_n 0, 1) := by decide +kernel
theorem dX5_cutAll_302 : decode cX5_cutAll 302 = .ok (.iconst 0, 1) := by decide +kernel
theorem dX5_cutAll_303 : decode cX5_cutAll 303 = .ok (.putfield 136, 3) := by decide +kernel
theorem dX5_cutAll_306 : decode cX5_cutAll 306 = .ok (.return_, 1) := by decide +kernel
theorem dX5_wrong_0 : decode cX5_wrong 0 = .ok (.aload_n 0, 1) := by decide +kernel
theorem dX5_wrong_1 : decode cX5_wrong 1 = .ok (.getfield 136, 3) := by decide +kernel
theorem dX5_wrong_4 : decode cX5_wrong 4 = .ok (.ifCond .ne 21, 3) := by decide +kernel
theorem dX5_wrong_7 : decode cX5_wrong 7 = .ok (.aload_n 0, 1) := by decide +kernel
theorem dX5_wrong_8 : decode cX5_wrong 8 = .ok (.iload_n 1, 1) := by decide +kernel
theorem dX5_wrong_9 : decode cX5_wrong 9 = .ok (.bipush 16, 2) := by decide +kernel
theorem dX5_wrong_11 : decode cX5_wrong 11 = .ok (.aload_n 0, 1) := by decide +kernel
theorem dX5_wrong_12 : decode cX5_wrong 12 = .ok (.getfield 27, 3) := by decide +kernel
theorem dX5_wrong_15 : decode cX5_wrong 15 = .ok (.aload_n 0, 1) := by decide +kernel
theorem dX5_wrong_16 : decode cX5_wrong 16 = .ok (.getfield 133, 3) := by decide +kernel
theorem dX5_wrong_19 : decode cX5_wrong 19 = .ok (.iaload, 1) := by decide +kernel
theorem dX5_wrong_20 : decode cX5_wrong 20 = .ok (.imul, 1) := by decide +kernel
theorem dX5_wrong_21 : decode cX5_wrong 21 = .ok (.iadd, 1) := by decide +kernel
theorem dX5_wrong_22 : decode cX5_wrong 22 = .ok (.putfield 136, 3) := by decide +kernel
theorem dX5_wrong_25 : decode cX5_wrong 25 = .ok (.return_, 1) := by decide +kernel
theorem dX5_isSign_0 : decode cX5_isSign 0 = .ok (.aload_n 0, 1) := by decide +kernel
theorem dX5_isSign_1 : decode cX5_isSign 1 = .ok (.getfield 136, 3) := by decide +kernel
theorem dX5_isSign_4 : decode cX5_isSign 4 = .ok (.ifCond .ne 35, 3) := by decide +kernel
theorem dX5_isSign_7 : decode cX5_isSign 7 = .ok (.aload_n 0, 1) := by decide +kernel
theorem dX5_isSign_8 : decode cX5_isSign 8 = .ok (.getfield 24, 3) := by decide +kernel
theorem dX5_isSign_11 : decode cX5_isSign 11 = .ok (.aload_n 0, 1) := by decide +kernel
theorem dX5_isSign_12 : decode cX5_isSign 12 = .ok (.getfield 133, 3) := by decide +kernel
theorem dX5_isSign_15 : decode cX5_isSign 15 = .ok (.iaload, 1) := by decide +kernel
theorem dX5_isSign_16 : decode cX5_isSign 16 = .ok (.iconst 3, 1) := by decide +kernel
theorem dX5_isSign_17 : decode cX5_isSign 17 = .ok (.if_icmp .ne 22, 3) := by decide +kernel
theorem dX5_isSign_20 : decode cX5_isSign 20 = .ok (.aload_n 0, 1) := by decide +kernel
theorem dX5_isSign_21 : decode cX5_isSign 21 = .ok (.getfield 30, 3) := by decide +kernel
theorem dX5_isSign_24 : decode cX5_isSign 24 = .ok (.aload_n 0, 1) := by decide +kernel
theorem dX5_isSign_25 : decode cX5_isSign 25 = .ok (.getfield 133, 3) := by decide +kernel
theorem dX5_isSign_28 : decode cX5_isSign 28 = .ok (.laload, 1) := by decide +kernel
theorem dX5_isSign_29 : decode cX5_isSign 29 = .ok (.iload_n 1, 1) := by decide +kernel
theorem dX5_isSign_30 : decode cX5_isSign 30 = .ok (.i2l, 1) := by decide +kernel
theorem dX5_isSign_31 : decode cX5_isSign 31 = .ok (.lcmp, 1) := by decide +kernel
theorem dX5_isSign_32 : decode cX5_isSign 32 = .ok (.ifCond .ne 7, 3) := by decide +kernel
theorem dX5_isSign_35 : decode cX5_isSign 35 = .ok (.iconst 1, 1) := by decide +kernel
theorem dX5_isSign_36 : decode cX5_isSign 36 = .ok (.goto 4, 3) := by decide +kernel
theorem dX5_isSign_39 : decode cX5_isSign 39 = .ok (.iconst 0, 1) := by decide +kernel
theorem dX5_isSign_40 : decode cX5_isSign 40 = .ok (.ireturn, 1) := by decide +kernel
theorem dX5_isWord_0 : decode cX5_isWord 0 = .ok (.aload_n 0, 1) := by decide +kernel
theorem dX5_isWord_1 : decode cX5_isWord 1 = .ok (.getfield 136, 3) := by decide +kernel
theorem dX5_isWord_4 : decode cX5_isWord 4 = .ok (.ifCond .ne 39, 3) := by decide +kernel
theorem dX5_isWord_7 : decode cX5_isWord 7 = .ok (.aload_n 0, 1) := by decide +kernel
theorem dX5_isWord_8 : decode cX5_isWord 8 = .ok (.getfield 24, 3) := by decide +kernel
theorem dX5_isWord_11 : decode cX5_isWord 11 = .ok (.aload_n 0, 1) := by decide +kernel
theorem dX5_isWord_12 : decode cX5_isWord 12 = .ok (.getfield 133, 3) := by decide +kernel
theorem dX5_isWord_15 : decode cX5_isWord 15 = .ok (.iaload, 1) := by decide +kernel
theorem dX5_isWord_16 : decode cX5_isWord 16 = .ok (.iconst 1, 1) := by decide +kernel
theorem dX5_isWord_17 : decode cX5_isWord 17 = .ok (.if_icmp .ne 26, 3) := by decide +kernel
theorem dX5_isWord_20 : decode cX5_isWord 20 = .ok (.aload_n 0, 1) := by decide +kernel
theorem dX5_isWord_21 : decode cX5_isWord 21 = .ok (.getfield 30, 3) := by decide +kernel
theorem dX5_isWord_24 : decode cX5_isWord 24 = .ok (.aload_n 0, 1) := by decide +kernel
theorem dX5_isWord_25 : decode cX5_isWord 25 = .ok (.getfield 133, 3) := by decide +kernel
theorem dX5_isWord_28 : decode cX5_isWord 28 = .ok (.laload, 1) := by decide +kernel
theorem dX5_isWord_29 : decode cX5_isWord 29 = .ok (.aload_n 0, 1) := by decide +kernel
theorem dX5_isWord_30 : decode cX5_isWord 30 = .ok (.getfield 58, 3) := by decide +kernel
theorem dX5_isWord_33 : decode cX5_isWord 33 = .ok (.iload_n 1, 1) := by decide +kernel
theorem dX5_isWord_34 : decode cX5_isWord 34 = .ok (.laload, 1) := by decide +kernel
theorem dX5_isWord_35 : decode cX5_isWord 35 = .ok (.lcmp, 1) := by decide +kernel
theorem dX5_isWord_36 : decode cX5_isWord 36 = .ok (.ifCond .ne 7, 3) := by decide +kernel
theorem dX5_isWord_39 : decode cX5_isWord 39 = .ok (.iconst 1, 1) := by decide +kernel
theorem dX5_isWord_40 : decode cX5_isWord 40 = .ok (.goto 4, 3) := by decide +kernel
theorem dX5_isWord_43 : decode cX5_isWord 43 = .ok (.iconst 0, 1) := by decide +kernel
theorem dX5_isWord_44 : decode cX5_isWord 44 = .ok (.ireturn, 1) := by decide +kernel
set_option maxRecDepth 20000 in
theorem ggX5_takeSign_X5_isSign : GoodIn wsX5_takeSign wsX5_isSign := goodIn_r _ [6, 7, 8, 1, 9, 15, 16, 17, 18, 19, 20, 21, 22, 23, 24, 25, 26, 27, 28, 29, 30, 31, 32, 33, 34, 35, 36, 37, 38, 39, 40, 41, 42, 43, 44] (by decide +kernel) (by decide +kernel)
set_option maxRecDepth 20000 in
theorem gX5_takeSign_X5_isSign : GoodIn wsX5_takeSign (wsV RX5 139 RX5 yX5_isSign wsX5_isSign) := goodIn_app (goodIn_of _ (by decide +kernel)) ggX5_takeSign_X5_isSign
set_option maxRecDepth 20000 in
theorem ggX5_takeSign_X5_wrong : GoodIn wsX5_takeSign wsX5_wrong := goodIn_r _ [13, 7, 14, 1, 15, 16, 17, 18, 19, 20, 21, 22, 23, 24, 25, 26, 27, 28, 29, 30, 31, 32, 33, 34, 35, 36, 37, 38, 39, 40, 41, 42, 43, 44] (by decide +kernel) (by decide +kernel)
set_option maxRecDepth 20000 in
theorem gX5_takeSign_X5_wrong : GoodIn wsX5_takeSign (wsV RX5 142 RX5 yX5_wrong wsX5_wrong) := goodIn_app (goodIn_of _ (by decide +kernel)) ggX5_takeSign_X5_wrong
theorem dX5_takeSign_0 : decode cX5_takeSign 0 = .ok (.aload_n 0, 1) := by decide +kernel
theorem dX5_takeSign_1 : decode cX5_takeSign 1 = .ok (.iload_n 1, 1) := by decide +kernel
theorem dX5_takeSign_2 : decode cX5_takeSign 2 = .ok (.invokevirtual 139, 3) := by decide +kernel
theorem dX5_takeSign_5 : decode cX5_takeSign 5 = .ok (.ifCond .eq 16, 3) := by decide +kernel
theorem dX5_takeSign_8 : decode cX5_takeSign 8 = .ok (.aload_n 0, 1) := by decide +kernel
theorem dX5_takeSign_9 : decode cX5_takeSign 9 = .ok (.dup, 1) := by decide +kernel
theorem dX5_takeSign_10 : decode cX5_takeSign 10 = .ok (.getfield 133, 3) := by decide +kernel
theorem dX5_takeSign_13 : decode cX5_takeSign 13 = .ok (.iconst 1, 1) := by decide +kernel
theorem dX5_takeSign_14 : decode cX5_takeSign 14 = .ok (.iadd, 1) := by decide +kernel
theorem dX5_takeSign_15 : decode cX5_takeSign 15 = .ok (.putfield 133, 3) := by decide +kernel
theorem dX5_takeSign_18 : decode cX5_takeSign 18 = .ok (.goto 8, 3) := by decide +kernel
theorem dX5_takeSign_21 : decode cX5_takeSign 21 = .ok (.aload_n 0, 1) := by decide +kernel
theorem dX5_takeSign_22 : decode cX5_takeSign 22 = .ok (.iconst 1, 1) := by decide +kernel
theorem dX5_takeSign_23 : decode cX5_takeSign 23 = .ok (.invokevirtual 142, 3) := by decide +kernel
theorem dX5_takeSign_26 : decode cX5_takeSign 26 = .ok (.return_, 1) := by decide +kernel
set_option maxRecDepth 20000 in
theorem ggX5_hasWord_X5_isWord : GoodIn wsX5_hasWord wsX5_isWord := goodIn_r _ [6, 7, 8, 1, 9, 10, 11, 12, 13, 14, 15, 16, 17, 18, 19, 20, 21, 22, 23, 24, 25, 26, 27, 28, 29, 30, 31, 32, 33, 34, 35, 36, 37, 38, 39, 40] (by decide +kernel) (by decide +kernel)
set_option maxRecDepth 20000 in
theorem gX5_hasWord_X5_isWord : GoodIn wsX5_hasWord (wsV RX5 146 RX5 yX5_isWord wsX5_isWord) := goodIn_app (goodIn_of _ (by decide +kernel)) ggX5_hasWord_X5_isWord
theorem dX5_hasWord_0 : decode cX5_hasWord 0 = .ok (.aload_n 0, 1) := by decide +kernel
theorem dX5_hasWord_1 : decode cX5_hasWord 1 = .ok (.iload_n 1, 1) := by decide +kernel
theorem dX5_hasWord_2 : decode cX5_hasWord 2 = .ok (.invokevirtual 146, 3) := by decide +kernel
theorem dX5_hasWord_5 : decode cX5_hasWord 5 = .ok (.istore_n 2, 1) := by decide +kernel
theorem dX5_hasWord_6 : decode cX5_hasWord 6 = .ok (.aload_n 0, 1) := by decide +kernel
theorem dX5_hasWord_7 : decode cX5_hasWord 7 = .ok (.dup, 1) := by decide +kernel
theorem dX5_hasWord_8 : decode cX5_hasWord 8 = .ok (.getfield 133, 3) := by decide +kernel
theorem dX5_hasWord_11 : decode cX5_hasWord 11 = .ok (.iload_n 2, 1) := by decide +kernel
theorem dX5_hasWord_12 : decode cX5_hasWord 12 = .ok (.ifCond .eq 7, 3) := by decide +kernel
theorem dX5_hasWord_15 : decode cX5_hasWord 15 = .ok (.iconst 1, 1) := by decide +kernel
theorem dX5_hasWord_16 : decode cX5_hasWord 16 = .ok (.goto 4, 3) := by decide +kernel
theorem dX5_hasWord_19 : decode cX5_hasWord 19 = .ok (.iconst 0, 1) := by decide +kernel
theorem dX5_hasWord_20 : decode cX5_hasWord 20 = .ok (.iadd, 1) := by decide +kernel
theorem dX5_hasWord_21 : decode cX5_hasWord 21 = .ok (.putfield 133, 3) := by decide +kernel
theorem dX5_hasWord_24 : decode cX5_hasWord 24 = .ok (.iload_n 2, 1) := by decide +kernel
theorem dX5_hasWord_25 : decode cX5_hasWord 25 = .ok (.ireturn, 1) := by decide +kernel
set_option maxRecDepth 20000 in
theorem ggX5_takeWord_X5_hasWord : GoodIn wsX5_takeWord wsX5_hasWord := goodIn_r _ [5, 6, 7, 8, 9, 4, 10, 11, 12, 13, 14, 20, 21, 22, 23, 24, 25, 26, 27, 28, 29, 30, 31, 32, 33, 34, 35, 36, 37, 38, 39, 40, 41, 42, 43, 44, 45, 46, 47, 48, 49] (by decide +kernel) (by decide +kernel)
set_option maxRecDepth 20000 in
theorem gX5_takeWord_X5_hasWord : GoodIn wsX5_takeWord (wsV RX5 149 RX5 yX5_hasWord wsX5_hasWord) := goodIn_app (goodIn_of _ (by decide +kernel)) ggX5_takeWord_X5_hasWord
set_option maxRecDepth 20000 in
theorem ggX5_takeWord_X5_wrong : GoodIn wsX5_takeWord wsX5_wrong := goodIn_r _ [18, 11, 19, 6, 20, 21, 22, 23, 24, 25, 26, 27, 28, 29, 30, 31, 32, 33, 34, 35, 36, 37, 38, 39, 40, 41, 42, 43, 44, 45, 46, 47, 48, 49] (by decide +kernel) (by decide +kernel)
set_option maxRecDepth 20000 in
theorem gX5_takeWord_X5_wrong : GoodIn wsX5_takeWord (wsV RX5 142 RX5 yX5_wrong wsX5_wrong) := goodIn_app (goodIn_of _ (by decide +kernel)) ggX5_takeWord_X5_wrong
theorem dX5_takeWord_0 : decode cX5_takeWord 0 = .ok (.aload_n 0, 1) := by decide +kernel
theorem dX5_takeWord_1 : decode cX5_takeWord 1 = .ok (.iload_n 1, 1) := by decide +kernel
theorem dX5_takeWord_2 : decode cX5_takeWord 2 = .ok (.invokevirtual 149, 3) := by decide +kernel
theorem dX5_takeWord_5 : decode cX5_takeWord 5 = .ok (.ifCond .ne 8, 3) := by decide +kernel
theorem dX5_takeWord_8 : decode cX5_takeWord 8 = .ok (.aload_n 0, 1) := by decide +kernel
theorem dX5_takeWord_9 : decode cX5_takeWord 9 = .ok (.iconst 1, 1) := by decide +kernel
theorem dX5_takeWord_10 : decode cX5_takeWord 10 = .ok (.invokevirtual 142, 3) := by decide +kernel
theorem dX5_takeWord_13 : decode cX5_takeWord 13 = .ok (.return_, 1) := by decide +kernel
set_option maxRecDepth 20000 in
theorem ggX5_takeNumber_X5_wrong : GoodIn wsX5_takeNumber wsX5_wrong := goodIn_r _ [9, 1, 10, 3, 11, 12, 13, 14, 15, 16, 17, 18, 19, 20, 21, 22, 23, 24, 25, 26, 27, 28, 29, 30, 31, 32, 33, 34, 35, 36, 37, 38, 39, 40] (by decide +kernel) (by decide +kernel)
set_option maxRecDepth 20000 in
theorem gX5_takeNumber_X5_wrong : GoodIn wsX5_takeNumber (wsV RX5 142 RX5 yX5_wrong wsX5_wrong) := goodIn_app (goodIn_of _ (by decide +kernel)) ggX5_takeNumber_X5_wrong
theorem dX5_takeNumber_0 : decode cX5_takeNumber 0 = .ok (.aload_n 0, 1) := by decide +kernel
theorem dX5_takeNumber_1 : decode cX5_takeNumber 1 = .ok (.getfield 136, 3) := by decide +kernel
theorem dX5_takeNumber_4 : decode cX5_takeNumber 4 = .ok (.ifCond .ne 24, 3) := by decide +kernel
theorem dX5_takeNumber_7 : decode cX5_takeNumber 7 = .ok (.aload_n 0, 1) := by decide +kernel
theorem dX5_takeNumber_8 : decode cX5_takeNumber 8 = .ok (.getfield 24, 3) := by decide +kernel
theorem dX5_takeNumber_11 : decode cX5_takeNumber 11 = .ok (.aload_n 0, 1) := by decide +kernel
theorem dX5_takeNumber_12 : decode cX5_takeNumber 12 = .ok (.getfield 133, 3) := by decide +kernel
theorem dX5_takeNumber_15 : decode cX5_takeNumber 15 = .ok (.iaload, 1) := by decide +kernel
theorem dX5_takeNumber_16 : decode cX5_takeNumber 16 = .ok (.iconst 2, 1) := by decide +kernel
theorem dX5_takeNumber_17 : decode cX5_takeNumber 17 = .ok (.if_icmp .eq 11, 3) := by decide +kernel
theorem dX5_takeNumber_20 : decode cX5_takeNumber 20 = .ok (.aload_n 0, 1) := by decide +kernel
theorem dX5_takeNumber_21 : decode cX5_takeNumber 21 = .ok (.iconst 1, 1) := by decide +kernel
theorem dX5_takeNumber_22 : decode cX5_takeNumber 22 = .ok (.invokevirtual 142, 3) := by decide +kernel
theorem dX5_takeNumber_25 : decode cX5_takeNumber 25 = .ok (.goto 45, 3) := by decide +kernel
theorem dX5_takeNumber_28 : decode cX5_takeNumber 28 = .ok (.aload_n 0, 1) := by decide +kernel
theorem dX5_takeNumber_29 : decode cX5_takeNumber 29 = .ok (.getfield 136, 3) := by decide +kernel
theorem dX5_takeNumber_32 : decode cX5_takeNumber 32 = .ok (.ifCond .ne 38, 3) := by decide +kernel
theorem dX5_takeNumber_35 : decode cX5_takeNumber 35 = .ok (.aload_n 0, 1) := by decide +kernel
theorem dX5_takeNumber_36 : decode cX5_takeNumber 36 = .ok (.getfield 30, 3) := by decide +kernel
theorem dX5_takeNumber_39 : decode cX5_takeNumber 39 = .ok (.aload_n 0, 1) := by decide +kernel
theorem dX5_takeNumber_40 : decode cX5_takeNumber 40 = .ok (.getfield 133, 3) := by decide +kernel
theorem dX5_takeNumber_43 : decode cX5_takeNumber 43 = .ok (.laload, 1) := by decide +kernel
theorem dX5_takeNumber_44 : decode cX5_takeNumber 44 = .ok (.iload_n 1, 1) := by decide +kernel
theorem dX5_takeNumber_45 : decode cX5_takeNumber 45 = .ok (.i2l, 1) := by decide +kernel
theorem dX5_takeNumber_46 : decode cX5_takeNumber 46 = .ok (.lcmp, 1) := by decide +kernel
theorem dX5_takeNumber_47 : decode cX5_takeNumber 47 = .ok (.ifCond .lt 18, 3) := by decide +kernel
theorem dX5_takeNumber_50 : decode cX5_takeNumber 50 = .ok (.aload_n 0, 1) := by decide +kernel
theorem dX5_takeNumber_51 : decode cX5_takeNumber 51 = .ok (.getfield 30, 3) := by decide +kernel
theorem dX5_takeNumber_54 : decode cX5_takeNumber 54 = .ok (.aload_n 0, 1) := by decide +kernel
theorem dX5_takeNumber_55 : decode cX5_takeNumber 55 = .ok (.getfield 133, 3) := by decide +kernel
theorem dX5_takeNumber_58 : decode cX5_takeNumber 58 = .ok (.laload, 1) := by decide +kernel
theorem dX5_takeNumber_59 : decode cX5_takeNumber 59 = .ok (.iload_n 2, 1) := by decide +kernel
theorem dX5_takeNumber_60 : decode cX5_takeNumber 60 = .ok (.i2l, 1) := by decide +kernel
theorem dX5_takeNumber_61 : decode cX5_takeNumber 61 = .ok (.lcmp, 1) := by decide +kernel
theorem dX5_takeNumber_62 : decode cX5_takeNumber 62 = .ok (.ifCond .le 8, 3) := by decide +kernel
theorem dX5_takeNumber_65 : decode cX5_takeNumber 65 = .ok (.aload_n 0, 1) := by decide +kernel
theorem dX5_takeNumber_66 : decode cX5_takeNumber 66 = .ok (.iconst 4, 1) := by decide +kernel
theorem dX5_takeNumber_67 : decode cX5_takeNumber 67 = .ok (.invokevirtual 142, 3) := by decide +kernel
theorem dX5_takeNumber_70 : decode cX5_takeNumber 70 = .ok (.aload_n 0, 1) := by decide +kernel
theorem dX5_takeNumber_71 : decode cX5_takeNumber 71 = .ok (.dup, 1) := by decide +kernel
theorem dX5_takeNumber_72 : decode cX5_takeNumber 72 = .ok (.getfield 133, 3) := by decide +kernel
theorem dX5_takeNumber_75 : decode cX5_takeNumber 75 = .ok (.iconst 1, 1) := by decide +kernel
theorem dX5_takeNumber_76 : decode cX5_takeNumber 76 = .ok (.iadd, 1) := by decide +kernel
theorem dX5_takeNumber_77 : decode cX5_takeNumber 77 = .ok (.putfield 133, 3) := by decide +kernel
theorem dX5_takeNumber_80 : decode cX5_takeNumber 80 = .ok (.aload_n 0, 1) := by decide +kernel
theorem dX5_takeNumber_81 : decode cX5_takeNumber 81 = .ok (.getfield 136, 3) := by decide +kernel
theorem dX5_takeNumber_84 : decode cX5_takeNumber 84 = .ok (.ifCond .le 7, 3) := by decide +kernel
theorem dX5_takeNumber_87 : decode cX5_takeNumber 87 = .ok (.iconst 0, 1) := by decide +kernel
theorem dX5_takeNumber_88 : decode cX5_takeNumber 88 = .ok (.goto 15, 3) := by decide +kernel
theorem dX5_takeNumber_91 : decode cX5_takeNumber 91 = .ok (.aload_n 0, 1) := by decide +kernel
theorem dX5_takeNumber_92 : decode cX5_takeNumber 92 = .ok (.getfield 30, 3) := by decide +kernel
theorem dX5_takeNumber_95 : decode cX5_takeNumber 95 = .ok (.aload_n 0, 1) := by decide +kernel
theorem dX5_takeNumber_96 : decode cX5_takeNumber 96 = .ok (.getfield 133, 3) := by decide +kernel
theorem dX5_takeNumber_99 : decode cX5_takeNumber 99 = .ok (.iconst 1, 1) := by decide +kernel
theorem dX5_takeNumber_100 : decode cX5_takeNumber 100 = .ok (.isub, 1) := by decide +kernel
theorem dX5_takeNumber_101 : decode cX5_takeNumber 101 = .ok (.laload, 1) := by decide +kernel
theorem dX5_takeNumber_102 : decode cX5_takeNumber 102 = .ok (.l2i, 1) := by decide +kernel
theorem dX5_takeNumber_103 : decode cX5_takeNumber 103 = .ok (.ireturn, 1) := by decide +kernel
set_option maxRecDepth 20000 in
theorem ggX5_grammar_X5_cutAll : GoodIn wsX5_grammar wsX5_cutAll := goodIn_r _ [13, 14, 15, 16, 17, 18, 7, 19, 20, 21, 8, 6, 22, 23, 12, 24, 25, 26, 27, 28, 29, 30, 31, 32, 33, 77, 78, 79, 80, 81, 82, 83, 84, 85, 86, 87, 88, 89, 90, 91, 92, 93, 94, 95, 96, 97, 98, 99, 100, 101, 102, 103, 104, 105, 106] (by decide +kernel) (by decide +kernel)
set_option maxRecDepth 20000 in
theorem gX5_grammar_X5_cutAll : GoodIn wsX5_grammar (wsV RX5 152 RX5 yX5_cutAll wsX5_cutAll) := goodIn_app (goodIn_of _ (by decide +kernel)) ggX5_grammar_X5_cutAll
set_option maxRecDepth 20000 in
theorem ggX5_grammar_X5_isWord : GoodIn wsX5_grammar wsX5_isWord := goodIn_r _ [37, 6, 7, 8, 21, 38, 77, 78, 79, 80, 81, 82, 83, 84, 85, 86, 87, 88, 89, 90, 91, 92, 93, 94, 95, 96, 97, 98, 99, 100, 101, 102, 103, 104, 105, 106] (by decide +kernel) (by decide +kernel)
set_option maxRecDepth 20000 in
theorem gX5_grammar_X5_isWord : GoodIn wsX5_grammar (wsV RX5 146 RX5 yX5_isWord wsX5_isWord) := goodIn_app (goodIn_of _ (by decide +kernel)) ggX5_grammar_X5_isWord
set_option maxRecDepth 20000 in
theorem ggX5_grammar_X5_readGo : GoodIn wsX5_grammar wsX5_readGo := goodIn_r _ [42, 4, 3, 8, 43, 44, 45, 46, 12, 47, 6, 17, 48, 49, 50, 51, 7, 21, 52, 53, 54, 55, 56, 57, 58, 59, 34, 35, 36, 37, 38, 60, 61, 62, 63, 64, 65, 66, 67, 68, 69, 70, 71, 77, 78, 79, 80, 81, 82, 83, 84, 85, 86, 87, 88, 89, 90, 91, 92, 93, 94, 95, 96, 97, 98, 99, 100, 101, 102, 103, 104, 105, 106] (by decide +kernel) (by decide +kernel)
set_option maxRecDepth 20000 in
theorem gX5_grammar_X5_readGo : GoodIn wsX5_grammar (wsV RX5 161 RX5 yX5_readGo wsX5_readGo) := goodIn_app (goodIn_of _ (by decide +kernel)) ggX5_grammar_X5_readGo
set_option maxRecDepth 20000 in
theorem ggX5_grammar_X5_readEnd : GoodIn wsX5_grammar wsX5_readEnd := goodIn_r _ [75, 5, 3, 8, 76, 44, 45, 46, 12, 47, 6, 17, 48, 49, 50, 51, 7, 21, 52, 53, 54, 55, 56, 57, 58, 59, 34, 35, 36, 37, 38, 60, 61, 62, 63, 64, 65, 66, 67, 68, 69, 70, 71, 77, 78, 79, 80, 81, 82, 83, 84, 85, 86, 87, 88, 89, 90, 91, 92, 93, 94, 95, 96, 97, 98, 99, 100, 101, 102, 103, 104, 105, 106] (by decide +kernel) (by decide +kernel)
set_option maxRecDepth 20000 in
theorem gX5_grammar_X5_readEnd : GoodIn wsX5_grammar (wsV RX5 164 RX5 yX5_readEnd wsX5_readEnd) := goodIn_app (goodIn_of _ (by decide +kernel)) ggX5_grammar_X5_readEnd
set_option maxRecDepth 20000 in
theorem ggX5_grammar_X5_wrong : GoodIn wsX5_grammar wsX5_wrong := goodIn_r _ [47, 6, 17, 8, 77, 78, 79, 80, 81, 82, 83, 84, 85, 86, 87, 88, 89, 90, 91, 92, 93, 94, 95, 96, 97, 98, 99, 100, 101, 102, 103, 104, 105, 106] (by decide +kernel) (by decide +kernel)
set_option maxRecDepth 20000 in
theorem gX5_grammar_X5_wrong : GoodIn wsX5_grammar (wsV RX5 142 RX5 yX5_wrong wsX5_wrong) := goodIn_app (goodIn_of _ (by decide +kernel)) ggX5_grammar_X5_wrong
theorem dX5_grammar_0 : decode cX5_grammar 0 = .ok (.aload_n 0, 1) := by decide +kernel
theorem dX5_grammar_1 : decode cX5_grammar 1 = .ok (.iconst 0, 1) := by decide +kernel
theorem dX5_grammar_2 : decode cX5_grammar 2 = .ok (.putfield 1, 3) := by decide +kernel
theorem dX5_grammar_5 : decode cX5_grammar 5 = .ok (.aload_n 0, 1) := by decide +kernel
theorem dX5_grammar_6 : decode cX5_grammar 6 = .ok (.invokevirtual 152, 3) := by decide +kernel
theorem dX5_grammar_9 : decode cX5_grammar 9 = .ok (.aload_n 0, 1) := by decide +kernel
theorem dX5_grammar_10 : decode cX5_grammar 10 = .ok (.iconst 1, 1) := by decide +kernel
theorem dX5_grammar_11 : decode cX5_grammar 11 = .ok (.aload_n 0, 1) := by decide +kernel
theorem dX5_grammar_12 : decode cX5_grammar 12 = .ok (.getfield 155, 3) := by decide +kernel
theorem dX5_grammar_15 : decode cX5_grammar 15 = .ok (.isub, 1) := by decide +kernel
theorem dX5_grammar_16 : decode cX5_grammar 16 = .ok (.putfield 158, 3) := by decide +kernel
theorem dX5_grammar_19 : decode cX5_grammar 19 = .ok (.aload_n 0, 1) := by decide +kernel
theorem dX5_grammar_20 : decode cX5_grammar 20 = .ok (.getfield 61, 3) := by decide +kernel
theorem dX5_grammar_23 : decode cX5_grammar 23 = .ok (.aload_n 0, 1) := by decide +kernel
theorem dX5_grammar_24 : decode cX5_grammar 24 = .ok (.getfield 158, 3) := by decide +kernel
theorem dX5_grammar_27 : decode cX5_grammar 27 = .ok (.iconst 0, 1) := by decide +kernel
theorem dX5_grammar_28 : decode cX5_grammar 28 = .ok (.iastore, 1) := by decide +kernel
theorem dX5_grammar_29 : decode cX5_grammar 29 = .ok (.aload_n 0, 1) := by decide +kernel
theorem dX5_grammar_30 : decode cX5_grammar 30 = .ok (.getfield 67, 3) := by decide +kernel
theorem dX5_grammar_33 : decode cX5_grammar 33 = .ok (.aload_n 0, 1) := by decide +kernel
theorem dX5_grammar_34 : decode cX5_grammar 34 = .ok (.getfield 158, 3) := by decide +kernel
theorem dX5_grammar_37 : decode cX5_grammar 37 = .ok (.iconst 0, 1) := by decide +kernel
theorem dX5_grammar_38 : decode cX5_grammar 38 = .ok (.iastore, 1) := by decide +kernel
theorem dX5_grammar_39 : decode cX5_grammar 39 = .ok (.aload_n 0, 1) := by decide +kernel
theorem dX5_grammar_40 : decode cX5_grammar 40 = .ok (.getfield 136, 3) := by decide +kernel
theorem dX5_grammar_43 : decode cX5_grammar 43 = .ok (.ifCond .ne 54, 3) := by decide +kernel
theorem dX5_grammar_46 : decode cX5_grammar 46 = .ok (.aload_n 0, 1) := by decide +kernel
theorem dX5_grammar_47 : decode cX5_grammar 47 = .ok (.getfield 24, 3) := by decide +kernel
theorem dX5_grammar_50 : decode cX5_grammar 50 = .ok (.aload_n 0, 1) := by decide +kernel
theorem dX5_grammar_51 : decode cX5_grammar 51 = .ok (.getfield 133, 3) := by decide +kernel
theorem dX5_grammar_54 : decode cX5_grammar 54 = .ok (.iaload, 1) := by decide +kernel
theorem dX5_grammar_55 : decode cX5_grammar 55 = .ok (.ifCond .eq 42, 3) := by decide +kernel
theorem dX5_grammar_58 : decode cX5_grammar 58 = .ok (.aload_n 0, 1) := by decide +kernel
theorem dX5_grammar_59 : decode cX5_grammar 59 = .ok (.iconst 0, 1) := by decide +kernel
theorem dX5_grammar_60 : decode cX5_grammar 60 = .ok (.invokevirtual 146, 3) := by decide +kernel
theorem dX5_grammar_63 : decode cX5_grammar 63 = .ok (.ifCond .eq 10, 3) := by decide +kernel
theorem dX5_grammar_66 : decode cX5_grammar 66 = .ok (.aload_n 0, 1) := by decide +kernel
theorem dX5_grammar_67 : decode cX5_grammar 67 = .ok (.invokevirtual 161, 3) := by decide +kernel
theorem dX5_grammar_70 : decode cX5_grammar 70 = .ok (.goto (-31), 3) := by decide +kernel
theorem dX5_grammar_73 : decode cX5_grammar 73 = .ok (.aload_n 0, 1) := by decide +kernel
theorem dX5_grammar_74 : decode cX5_grammar 74 = .ok (.bipush 8, 2) := by decide +kernel
theorem dX5_grammar_76 : decode cX5_grammar 76 = .ok (.invokevirtual 146, 3) := by decide +kernel
theorem dX5_grammar_79 : decode cX5_grammar 79 = .ok (.ifCond .eq 10, 3) := by decide +kernel
theorem dX5_grammar_82 : decode cX5_grammar 82 = .ok (.aload_n 0, 1) := by decide +kernel
theorem dX5_grammar_83 : decode cX5_grammar 83 = .ok (.invokevirtual 164, 3) := by decide +kernel
theorem dX5_grammar_86 : decode cX5_grammar 86 = .ok (.goto (-47), 3) := by decide +kernel
theorem dX5_grammar_89 : decode cX5_grammar 89 = .ok (.aload_n 0, 1) := by decide +kernel
theorem dX5_grammar_90 : decode cX5_grammar 90 = .ok (.iconst 1, 1) := by decide +kernel
theorem dX5_grammar_91 : decode cX5_grammar 91 = .ok (.invokevirtual 142, 3) := by decide +kernel
theorem dX5_grammar_94 : decode cX5_grammar 94 = .ok (.goto (-55), 3) := by decide +kernel
theorem dX5_grammar_97 : decode cX5_grammar 97 = .ok (.aload_n 0, 1) := by decide +kernel
theorem dX5_grammar_98 : decode cX5_grammar 98 = .ok (.getfield 136, 3) := by decide +kernel
theorem dX5_grammar_101 : decode cX5_grammar 101 = .ok (.ifCond .ne 11, 3) := by decide +kernel
theorem dX5_grammar_104 : decode cX5_grammar 104 = .ok (.aload_n 0, 1) := by decide +kernel
theorem dX5_grammar_105 : decode cX5_grammar 105 = .ok (.aload_n 0, 1) := by decide +kernel
theorem dX5_grammar_106 : decode cX5_grammar 106 = .ok (.getfield 158, 3) := by decide +kernel
theorem dX5_grammar_109 : decode cX5_grammar 109 = .ok (.putfield 155, 3) := by decide +kernel
theorem dX5_grammar_112 : decode cX5_grammar 112 = .ok (.aload_n 0, 1) := by decide +kernel
theorem dX5_grammar_113 : decode cX5_grammar 113 = .ok (.getfield 136, 3) := by decide +kernel
theorem dX5_grammar_116 : decode cX5_grammar 116 = .ok (.ireturn, 1) := by decide +kernel
set_option maxRecDepth 20000 in
theorem ggX5_readGo_X5_wrong : GoodIn wsX5_readGo wsX5_wrong := goodIn_r _ [9, 10, 11, 3, 43, 44, 45, 46, 47, 48, 49, 50, 51, 52, 53, 54, 55, 56, 57, 58, 59, 60, 61, 62, 63, 64, 65, 66, 67, 68, 69, 70, 71, 72] (by decide +kernel) (by decide +kernel)
set_option maxRecDepth 20000 in
theorem gX5_readGo_X5_wrong : GoodIn wsX5_readGo (wsV RX5 142 RX5 yX5_wrong wsX5_wrong) := goodIn_app (goodIn_of _ (by decide +kernel)) ggX5_readGo_X5_wrong
set_option maxRecDepth 20000 in
theorem ggX5_readGo_X5_takeNumber : GoodIn wsX5_readGo wsX5_takeNumber := goodIn_r _ [15, 10, 16, 3, 17, 5, 6, 7, 8, 9, 11, 43, 44, 45, 46, 47, 48, 49, 50, 51, 52, 53, 54, 55, 56, 57, 58, 59, 60, 61, 62, 63, 64, 65, 66, 67, 68, 69, 70, 71, 72] (by decide +kernel) (by decide +kernel)
set_option maxRecDepth 20000 in
theorem gX5_readGo_X5_takeNumber : GoodIn wsX5_readGo (wsV RX5 167 RX5 yX5_takeNumber wsX5_takeNumber) := goodIn_app (goodIn_of _ (by decide +kernel)) ggX5_readGo_X5_takeNumber
set_option maxRecDepth 20000 in
theorem ggX5_readGo_X5_takeWord : GoodIn wsX5_readGo wsX5_takeWord := goodIn_r _ [21, 22, 23, 24, 8, 25, 3, 26, 27, 28, 29, 10, 16, 17, 30, 5, 6, 7, 9, 11, 43, 44, 45, 46, 47, 48, 49, 50, 51, 52, 53, 54, 55, 56, 57, 58, 59, 60, 61, 62, 63, 64, 65, 66, 67, 68, 69, 70, 71, 72] (by decide +kernel) (by decide +kernel)
set_option maxRecDepth 20000 in
theorem gX5_readGo_X5_takeWord : GoodIn wsX5_readGo (wsV RX5 171 RX5 yX5_takeWord wsX5_takeWord) := goodIn_app (goodIn_of _ (by decide +kernel)) ggX5_readGo_X5_takeWord
set_option maxRecDepth 20000 in
theorem ggX5_readGo_X5_hasWord : GoodIn wsX5_readGo wsX5_hasWord := goodIn_r _ [25, 3, 26, 27, 28, 8, 29, 10, 16, 17, 30, 43, 44, 45, 46, 47, 48, 49, 50, 51, 52, 53, 54, 55, 56, 57, 58, 59, 60, 61, 62, 63, 64, 65, 66, 67, 68, 69, 70, 71, 72] (by decide +kernel) (by decide +kernel)
set_option maxRecDepth 20000 in
theorem gX5_readGo_X5_hasWord : GoodIn wsX5_readGo (wsV RX5 149 RX5 yX5_hasWord wsX5_hasWord) := goodIn_app (goodIn_of _ (by decide +kernel)) ggX5_readGo_X5_hasWord
set_option maxRecDepth 20000 in
theorem ggX5_readGo_X5_takeOneOf : GoodIn wsX5_readGo wsX5_takeOneOf := goodIn_r _ [34, 10, 22, 23, 24, 8, 25, 3, 26, 27, 28, 29, 16, 17, 30, 5, 6, 7, 9, 11, 43, 44, 45, 46, 47, 48, 49, 50, 51, 52, 53, 54, 55, 56, 57, 58, 59, 60, 61, 62, 63, 64, 65, 66, 67, 68, 69, 70, 71, 72] (by decide +kernel) (by decide +kernel)
set_option maxRecDepth 20000 in
theorem gX5_readGo_X5_takeOneOf : GoodIn wsX5_readGo (wsV RX5 174 RX5 yX5_takeOneOf wsX5_takeOneOf) := goodIn_app (goodIn_of _ (by decide +kernel)) ggX5_readGo_X5_takeOneOf
set_option maxRecDepth 20000 in
theorem ggX5_readGo_X5_takeSign : GoodIn wsX5_readGo wsX5_takeSign := goodIn_r _ [38, 3, 39, 40, 41, 8, 42, 10, 16, 17, 5, 6, 7, 9, 11, 43, 44, 45, 46, 47, 48, 49, 50, 51, 52, 53, 54, 55, 56, 57, 58, 59, 60, 61, 62, 63, 64, 65, 66, 67, 68, 69, 70, 71, 72] (by decide +kernel) (by decide +kernel)
set_option maxRecDepth 20000 in
theorem gX5_readGo_X5_takeSign : GoodIn wsX5_readGo (wsV RX5 177 RX5 yX5_takeSign wsX5_takeSign) := goodIn_app (goodIn_of _ (by decide +kernel)) ggX5_readGo_X5_takeSign
theorem dX5_readGo_0 : decode cX5_readGo 0 = .ok (.aload_n 0, 1) := by decide +kernel
theorem dX5_readGo_1 : decode cX5_readGo 1 = .ok (.getfield 61, 3) := by decide +kernel
theorem dX5_readGo_4 : decode cX5_readGo 4 = .ok (.aload_n 0, 1) := by decide +kernel
theorem dX5_readGo_5 : decode cX5_readGo 5 = .ok (.getfield 158, 3) := by decide +kernel
theorem dX5_readGo_8 : decode cX5_readGo 8 = .ok (.iaload, 1) := by decide +kernel
theorem dX5_readGo_9 : decode cX5_readGo 9 = .ok (.bipush 40, 2) := by decide +kernel
theorem dX5_readGo_11 : decode cX5_readGo 11 = .ok (.if_icmp .ne 9, 3) := by decide +kernel
theorem dX5_readGo_14 : decode cX5_readGo 14 = .ok (.aload_n 0, 1) := by decide +kernel
theorem dX5_readGo_15 : decode cX5_readGo 15 = .ok (.iconst 5, 1) := by decide +kernel
theorem dX5_readGo_16 : decode cX5_readGo 16 = .ok (.invokevirtual 142, 3) := by decide +kernel
theorem dX5_readGo_19 : decode cX5_readGo 19 = .ok (.return_, 1) := by decide +kernel
theorem dX5_readGo_20 : decode cX5_readGo 20 = .ok (.aload_n 0, 1) := by decide +kernel
theorem dX5_readGo_21 : decode cX5_readGo 21 = .ok (.dup, 1) := by decide +kernel
theorem dX5_readGo_22 : decode cX5_readGo 22 = .ok (.getfield 133, 3) := by decide +kernel
theorem dX5_readGo_25 : decode cX5_readGo 25 = .ok (.iconst 1, 1) := by decide +kernel
theorem dX5_readGo_26 : decode cX5_readGo 26 = .ok (.iadd, 1) := by decide +kernel
theorem dX5_readGo_27 : decode cX5_readGo 27 = .ok (.putfield 133, 3) := by decide +kernel
theorem dX5_readGo_30 : decode cX5_readGo 30 = .ok (.iconst 5, 1) := by decide +kernel
theorem dX5_readGo_31 : decode cX5_readGo 31 = .ok (.bipush 40, 2) := by decide +kernel
theorem dX5_readGo_33 : decode cX5_readGo 33 = .ok (.aload_n 0, 1) := by decide +kernel
theorem dX5_readGo_34 : decode cX5_readGo 34 = .ok (.getfield 158, 3) := by decide +kernel
theorem dX5_readGo_37 : decode cX5_readGo 37 = .ok (.imul, 1) := by decide +kernel
theorem dX5_readGo_38 : decode cX5_readGo 38 = .ok (.aload_n 0, 1) := by decide +kernel
theorem dX5_readGo_39 : decode cX5_readGo 39 = .ok (.getfield 61, 3) := by decide +kernel
theorem dX5_readGo_42 : decode cX5_readGo 42 = .ok (.aload_n 0, 1) := by decide +kernel
theorem dX5_readGo_43 : decode cX5_readGo 43 = .ok (.getfield 158, 3) := by decide +kernel
theorem dX5_readGo_46 : decode cX5_readGo 46 = .ok (.iaload, 1) := by decide +kernel
theorem dX5_readGo_47 : decode cX5_readGo 47 = .ok (.iadd, 1) := by decide +kernel
theorem dX5_readGo_48 : decode cX5_readGo 48 = .ok (.imul, 1) := by decide +kernel
theorem dX5_readGo_49 : decode cX5_readGo 49 = .ok (.istore_n 1, 1) := by decide +kernel
theorem dX5_readGo_50 : decode cX5_readGo 50 = .ok (.aload_n 0, 1) := by decide +kernel
theorem dX5_readGo_51 : decode cX5_readGo 51 = .ok (.getfield 64, 3) := by decide +kernel
theorem dX5_readGo_54 : decode cX5_readGo 54 = .ok (.iload_n 1, 1) := by decide +kernel
theorem dX5_readGo_55 : decode cX5_readGo 55 = .ok (.aload_n 0, 1) := by decide +kernel
theorem dX5_readGo_56 : decode cX5_readGo 56 = .ok (.iconst 0, 1) := by decide +kernel
theorem dX5_readGo_57 : decode cX5_readGo 57 = .ok (.bipush 9, 2) := by decide +kernel
theorem dX5_readGo_59 : decode cX5_readGo 59 = .ok (.invokevirtual 167, 3) := by decide +kernel
theorem dX5_readGo_62 : decode cX5_readGo 62 = .ok (.iastore, 1) := by decide +kernel
theorem dX5_readGo_63 : decode cX5_readGo 63 = .ok (.aload_n 0, 1) := by decide +kernel
theorem dX5_readGo_64 : decode cX5_readGo 64 = .ok (.iconst 1, 1) := by decide +kernel
theorem dX5_readGo_65 : decode cX5_readGo 65 = .ok (.invokevirtual 171, 3) := by decide +kernel
theorem dX5_readGo_68 : decode cX5_readGo 68 = .ok (.aload_n 0, 1) := by decide +kernel
theorem dX5_readGo_69 : decode cX5_readGo 69 = .ok (.getfield 64, 3) := by decide +kernel
theorem dX5_readGo_72 : decode cX5_readGo 72 = .ok (.iload_n 1, 1) := by decide +kernel
theorem dX5_readGo_73 : decode cX5_readGo 73 = .ok (.iconst 1, 1) := by decide +kernel
theorem dX5_readGo_74 : decode cX5_readGo 74 = .ok (.iadd, 1) := by decide +kernel
theorem dX5_readGo_75 : decode cX5_readGo 75 = .ok (.aload_n 0, 1) := by decide +kernel
theorem dX5_readGo_76 : decode cX5_readGo 76 = .ok (.iconst 0, 1) := by decide +kernel
theorem dX5_readGo_77 : decode cX5_readGo 77 = .ok (.bipush 7, 2) := by decide +kernel
theorem dX5_readGo_79 : decode cX5_readGo 79 = .ok (.invokevirtual 167, 3) := by decide +kernel
theorem dX5_readGo_82 : decode cX5_readGo 82 = .ok (.iastore, 1) := by decide +kernel
theorem dX5_readGo_83 : decode cX5_readGo 83 = .ok (.aload_n 0, 1) := by decide +kernel
theorem dX5_readGo_84 : decode cX5_readGo 84 = .ok (.iconst 2, 1) := by decide +kernel
theorem dX5_readGo_85 : decode cX5_readGo 85 = .ok (.invokevirtual 171, 3) := by decide +kernel
theorem dX5_readGo_88 : decode cX5_readGo 88 = .ok (.aload_n 0, 1) := by decide +kernel
theorem dX5_readGo_89 : decode cX5_readGo 89 = .ok (.getfield 64, 3) := by decide +kernel
theorem dX5_readGo_92 : decode cX5_readGo 92 = .ok (.iload_n 1, 1) := by decide +kernel
theorem dX5_readGo_93 : decode cX5_readGo 93 = .ok (.iconst 2, 1) := by decide +kernel
theorem dX5_readGo_94 : decode cX5_readGo 94 = .ok (.iadd, 1) := by decide +kernel
theorem dX5_readGo_95 : decode cX5_readGo 95 = .ok (.aload_n 0, 1) := by decide +kernel
theorem dX5_readGo_96 : decode cX5_readGo 96 = .ok (.iconst 0, 1) := by decide +kernel
theorem dX5_readGo_97 : decode cX5_readGo 97 = .ok (.bipush 9, 2) := by decide +kernel
theorem dX5_readGo_99 : decode cX5_readGo 99 = .ok (.invokevirtual 167, 3) := by decide +kernel
theorem dX5_readGo_102 : decode cX5_readGo 102 = .ok (.iastore, 1) := by decide +kernel
theorem dX5_readGo_103 : decode cX5_readGo 103 = .ok (.aload_n 0, 1) := by decide +kernel
theorem dX5_readGo_104 : decode cX5_readGo 104 = .ok (.iconst 3, 1) := by decide +kernel
theorem dX5_readGo_105 : decode cX5_readGo 105 = .ok (.invokevirtual 171, 3) := by decide +kernel
theorem dX5_readGo_108 : decode cX5_readGo 108 = .ok (.aload_n 0, 1) := by decide +kernel
theorem dX5_readGo_109 : decode cX5_readGo 109 = .ok (.getfield 64, 3) := by decide +kernel
theorem dX5_readGo_112 : decode cX5_readGo 112 = .ok (.iload_n 1, 1) := by decide +kernel
theorem dX5_readGo_113 : decode cX5_readGo 113 = .ok (.iconst 3, 1) := by decide +kernel
theorem dX5_readGo_114 : decode cX5_readGo 114 = .ok (.iadd, 1) := by decide +kernel
theorem dX5_readGo_115 : decode cX5_readGo 115 = .ok (.aload_n 0, 1) := by decide +kernel
theorem dX5_readGo_116 : decode cX5_readGo 116 = .ok (.iconst 0, 1) := by decide +kernel
theorem dX5_readGo_117 : decode cX5_readGo 117 = .ok (.sipush 999, 3) := by decide +kernel
theorem dX5_readGo_120 : decode cX5_readGo 120 = .ok (.invokevirtual 167, 3) := by decide +kernel
theorem dX5_readGo_123 : decode cX5_readGo 123 = .ok (.iastore, 1) := by decide +kernel
theorem dX5_readGo_124 : decode cX5_readGo 124 = .ok (.aload_n 0, 1) := by decide +kernel
theorem dX5_readGo_125 : decode cX5_readGo 125 = .ok (.getfield 64, 3) := by decide +kernel
theorem dX5_readGo_128 : decode cX5_readGo 128 = .ok (.iload_n 1, 1) := by decide +kernel
theorem dX5_readGo_129 : decode cX5_readGo 129 = .ok (.iconst 4, 1) := by decide +kernel
theorem dX5_readGo_130 : decode cX5_readGo 130 = .ok (.iadd, 1) := by decide +kernel
theorem dX5_readGo_131 : decode cX5_readGo 131 = .ok (.aload_n 0, 1) := by decide +kernel
theorem dX5_readGo_132 : decode cX5_readGo 132 = .ok (.iconst 4, 1) := by decide +kernel
theorem dX5_readGo_133 : decode cX5_readGo 133 = .ok (.invokevirtual 149, 3) := by decide +kernel
theorem dX5_readGo_136 : decode cX5_readGo 136 = .ok (.ifCond .eq 13, 3) := by decide +kernel
theorem dX5_readGo_139 : decode cX5_readGo 139 = .ok (.aload_n 0, 1) := by decide +kernel
theorem dX5_readGo_140 : decode cX5_readGo 140 = .ok (.iconst 5, 1) := by decide +kernel
theorem dX5_readGo_141 : decode cX5_readGo 141 = .ok (.invokevirtual 174, 3) := by decide +kernel
theorem dX5_readGo_144 : decode cX5_readGo 144 = .ok (.iconst 1, 1) := by decide +kernel
theorem dX5_readGo_145 : decode cX5_readGo 145 = .ok (.iadd, 1) := by decide +kernel
theorem dX5_readGo_146 : decode cX5_readGo 146 = .ok (.goto 4, 3) := by decide +kernel
theorem dX5_readGo_149 : decode cX5_readGo 149 = .ok (.iconst 0, 1) := by decide +kernel
theorem dX5_readGo_150 : decode cX5_readGo 150 = .ok (.iastore, 1) := by decide +kernel
theorem dX5_readGo_151 : decode cX5_readGo 151 = .ok (.aload_n 0, 1) := by decide +kernel
theorem dX5_readGo_152 : decode cX5_readGo 152 = .ok (.bipush 59, 2) := by decide +kernel
theorem dX5_readGo_154 : decode cX5_readGo 154 = .ok (.invokevirtual 177, 3) := by decide +kernel
theorem dX5_readGo_157 : decode cX5_readGo 157 = .ok (.aload_n 0, 1) := by decide +kernel
theorem dX5_readGo_158 : decode cX5_readGo 158 = .ok (.getfield 61, 3) := by decide +kernel
theorem dX5_readGo_161 : decode cX5_readGo 161 = .ok (.aload_n 0, 1) := by decide +kernel
theorem dX5_readGo_162 : decode cX5_readGo 162 = .ok (.getfield 158, 3) := by decide +kernel
theorem dX5_readGo_165 : decode cX5_readGo 165 = .ok (.dup2, 1) := by decide +kernel
theorem dX5_readGo_166 : decode cX5_readGo 166 = .ok (.iaload, 1) := by decide +kernel
theorem dX5_readGo_167 : decode cX5_readGo 167 = .ok (.iconst 1, 1) := by decide +kernel
theorem dX5_readGo_168 : decode cX5_readGo 168 = .ok (.iadd, 1) := by decide +kernel
theorem dX5_readGo_169 : decode cX5_readGo 169 = .ok (.iastore, 1) := by decide +kernel
theorem dX5_readGo_170 : decode cX5_readGo 170 = .ok (.return_, 1) := by decide +kernel
set_option maxRecDepth 20000 in
theorem ggX5_takeOneOf_X5_hasWord : GoodIn wsX5_takeOneOf wsX5_hasWord := goodIn_r _ [6, 7, 8, 9, 10, 5, 11, 1, 12, 13, 14, 20, 21, 22, 23, 24, 25, 26, 27, 28, 29, 30, 31, 32, 33, 34, 35, 36, 37, 38, 39, 40, 41, 42, 43, 44, 45, 46, 47, 48, 49] (by decide +kernel) (by decide +kernel)
set_option maxRecDepth 20000 in
theorem gX5_takeOneOf_X5_hasWord : GoodIn wsX5_takeOneOf (wsV RX5 149 RX5 yX5_hasWord wsX5_hasWord) := goodIn_app (goodIn_of _ (by decide +kernel)) ggX5_takeOneOf_X5_hasWord
set_option maxRecDepth 20000 in
theorem ggX5_takeOneOf_X5_wrong : GoodIn wsX5_takeOneOf wsX5_wrong := goodIn_r _ [18, 1, 19, 7, 20, 21, 22, 23, 24, 25, 26, 27, 28, 29, 30, 31, 32, 33, 34, 35, 36, 37, 38, 39, 40, 41, 42, 43, 44, 45, 46, 47, 48, 49] (by decide +kernel) (by decide +kernel)
set_option maxRecDepth 20000 in
theorem gX5_takeOneOf_X5_wrong : GoodIn wsX5_takeOneOf (wsV RX5 142 RX5 yX5_wrong wsX5_wrong) := goodIn_app (goodIn_of _ (by decide +kernel)) ggX5_takeOneOf_X5_wrong
theorem dX5_takeOneOf_0 : decode cX5_takeOneOf 0 = .ok (.iconst 0, 1) := by decide +kernel
theorem dX5_takeOneOf_1 : decode cX5_takeOneOf 1 = .ok (.istore_n 2, 1) := by decide +kernel
theorem dX5_takeOneOf_2 : decode cX5_takeOneOf 2 = .ok (.iload_n 2, 1) := by decide +kernel
theorem dX5_takeOneOf_3 : decode cX5_takeOneOf 3 = .ok (.iconst 3, 1) := by decide +kernel
theorem dX5_takeOneOf_4 : decode cX5_takeOneOf 4 = .ok (.if_icmp .ge 21, 3) := by decide +kernel
theorem dX5_takeOneOf_7 : decode cX5_takeOneOf 7 = .ok (.aload_n 0, 1) := by decide +kernel
theorem dX5_takeOneOf_8 : decode cX5_takeOneOf 8 = .ok (.iload_n 1, 1) := by decide +kernel
theorem dX5_takeOneOf_9 : decode cX5_takeOneOf 9 = .ok (.iload_n 2, 1) := by decide +kernel
theorem dX5_takeOneOf_10 : decode cX5_takeOneOf 10 = .ok (.iadd, 1) := by decide +kernel
theorem dX5_takeOneOf_11 : decode cX5_takeOneOf 11 = .ok (.invokevirtual 149, 3) := by decide +kernel
theorem dX5_takeOneOf_14 : decode cX5_takeOneOf 14 = .ok (.ifCond .eq 5, 3) := by decide +kernel
theorem dX5_takeOneOf_17 : decode cX5_takeOneOf 17 = .ok (.iload_n 2, 1) := by decide +kernel
theorem dX5_takeOneOf_18 : decode cX5_takeOneOf 18 = .ok (.ireturn, 1) := by decide +kernel
theorem dX5_takeOneOf_19 : decode cX5_takeOneOf 19 = .ok (.iinc 2 1, 3) := by decide +kernel
theorem dX5_takeOneOf_22 : decode cX5_takeOneOf 22 = .ok (.goto (-20), 3) := by decide +kernel
theorem dX5_takeOneOf_25 : decode cX5_takeOneOf 25 = .ok (.aload_n 0, 1) := by decide +kernel
theorem dX5_takeOneOf_26 : decode cX5_takeOneOf 26 = .ok (.getfield 136, 3) := by decide +kernel
theorem dX5_takeOneOf_29 : decode cX5_takeOneOf 29 = .ok (.ifCond .ne 8, 3) := by decide +kernel
theorem dX5_takeOneOf_32 : decode cX5_takeOneOf 32 = .ok (.aload_n 0, 1) := by decide +kernel
theorem dX5_takeOneOf_33 : decode cX5_takeOneOf 33 = .ok (.iconst 1, 1) := by decide +kernel
theorem dX5_takeOneOf_34 : decode cX5_takeOneOf 34 = .ok (.invokevirtual 142, 3) := by decide +kernel
theorem dX5_takeOneOf_37 : decode cX5_takeOneOf 37 = .ok (.iconst 0, 1) := by decide +kernel
theorem dX5_takeOneOf_38 : decode cX5_takeOneOf 38 = .ok (.ireturn, 1) := by decide +kernel
set_option maxRecDepth 20000 in
theorem ggX5_readEnd_X5_wrong : GoodIn wsX5_readEnd wsX5_wrong := goodIn_r _ [9, 10, 11, 3, 43, 44, 45, 46, 47, 48, 49, 50, 51, 52, 53, 54, 55, 56, 57, 58, 59, 60, 61, 62, 63, 64, 65, 66, 67, 68, 69, 70, 71, 72] (by decide +kernel) (by decide +kernel)
set_option maxRecDepth 20000 in
theorem gX5_readEnd_X5_wrong : GoodIn wsX5_readEnd (wsV RX5 142 RX5 yX5_wrong wsX5_wrong) := goodIn_app (goodIn_of _ (by decide +kernel)) ggX5_readEnd_X5_wrong
set_option maxRecDepth 20000 in
theorem ggX5_readEnd_X5_takeNumber : GoodIn wsX5_readEnd wsX5_takeNumber := goodIn_r _ [15, 10, 16, 3, 17, 5, 6, 7, 8, 9, 11, 43, 44, 45, 46, 47, 48, 49, 50, 51, 52, 53, 54, 55, 56, 57, 58, 59, 60, 61, 62, 63, 64, 65, 66, 67, 68, 69, 70, 71, 72] (by decide +kernel) (by decide +kernel)
set_option maxRecDepth 20000 in
theorem gX5_readEnd_X5_takeNumber : GoodIn wsX5_readEnd (wsV RX5 167 RX5 yX5_takeNumber wsX5_takeNumber) := goodIn_app (goodIn_of _ (by decide +kernel)) ggX5_readEnd_X5_takeNumber
set_option maxRecDepth 20000 in
theorem ggX5_readEnd_X5_takeWord : GoodIn wsX5_readEnd wsX5_takeWord := goodIn_r _ [21, 22, 23, 24, 8, 25, 3, 26, 27, 28, 29, 10, 16, 17, 30, 5, 6, 7, 9, 11, 43, 44, 45, 46, 47, 48, 49, 50, 51, 52, 53, 54, 55, 56, 57, 58, 59, 60, 61, 62, 63, 64, 65, 66, 67, 68, 69, 70, 71, 72] (by decide +kernel) (by decide +kernel)
set_option maxRecDepth 20000 in
theorem gX5_readEnd_X5_takeWord : GoodIn wsX5_readEnd (wsV RX5 171 RX5 yX5_takeWord wsX5_takeWord) := goodIn_app (goodIn_of _ (by decide +kernel)) ggX5_readEnd_X5_takeWord
set_option maxRecDepth 20000 in
theorem ggX5_readEnd_X5_takeOneOf : GoodIn wsX5_readEnd wsX5_takeOneOf := goodIn_r _ [34, 10, 22, 23, 24, 8, 25, 3, 26, 27, 28, 29, 16, 17, 30, 5, 6, 7, 9, 11, 43, 44, 45, 46, 47, 48, 49, 50, 51, 52, 53, 54, 55, 56, 57, 58, 59, 60, 61, 62, 63, 64, 65, 66, 67, 68, 69, 70, 71, 72] (by decide +kernel) (by decide +kernel)
set_option maxRecDepth 20000 in
theorem gX5_readEnd_X5_takeOneOf : GoodIn wsX5_readEnd (wsV RX5 174 RX5 yX5_takeOneOf wsX5_takeOneOf) := goodIn_app (goodIn_of _ (by decide +kernel)) ggX5_readEnd_X5_takeOneOf
set_option maxRecDepth 20000 in
theorem ggX5_readEnd_X5_takeSign : GoodIn wsX5_readEnd wsX5_takeSign := goodIn_r _ [38, 3, 39, 40, 41, 8, 42, 10, 16, 17, 5, 6, 7, 9, 11, 43, 44, 45, 46, 47, 48, 49, 50, 51, 52, 53, 54, 55, 56, 57, 58, 59, 60, 61, 62, 63, 64, 65, 66, 67, 68, 69, 70, 71, 72] (by decide +kernel) (by decide +kernel)
set_option maxRecDepth 20000 in
theorem gX5_readEnd_X5_takeSign : GoodIn wsX5_readEnd (wsV RX5 177 RX5 yX5_takeSign wsX5_takeSign) := goodIn_app (goodIn_of _ (by decide +kernel)) ggX5_readEnd_X5_takeSign
theorem dX5_readEnd_0 : decode cX5_readEnd 0 = .ok (.aload_n 0, 1) := by decide +kernel
theorem dX5_readEnd_1 : decode cX5_readEnd 1 = .ok (.getfield 67, 3) := by decide +kernel
theorem dX5_readEnd_4 : decode cX5_readEnd 4 = .ok (.aload_n 0, 1) := by decide +kernel
theorem dX5_readEnd_5 : decode cX5_readEnd 5 = .ok (.getfield 158, 3) := by decide +kernel
theorem dX5_readEnd_8 : decode cX5_readEnd 8 = .ok (.iaload, 1) := by decide +kernel
theorem dX5_readEnd_9 : decode cX5_readEnd 9 = .ok (.bipush 10, 2) := by decide +kernel
theorem dX5_readEnd_11 : decode cX5_readEnd 11 = .ok (.if_icmp .ne 9, 3) := by decide +kernel
theorem dX5_readEnd_14 : decode cX5_readEnd 14 = .ok (.aload_n 0, 1) := by decide +kernel
theorem dX5_readEnd_15 : decode cX5_readEnd 15 = .ok (.iconst 5, 1) := by decide +kernel
theorem dX5_readEnd_16 : decode cX5_readEnd 16 = .ok (.invokevirtual 142, 3) := by decide +kernel
theorem dX5_readEnd_19 : decode cX5_readEnd 19 = .ok (.return_, 1) := by decide +kernel
theorem dX5_readEnd_20 : decode cX5_readEnd 20 = .ok (.aload_n 0, 1) := by decide +kernel
theorem dX5_readEnd_21 : decode cX5_readEnd 21 = .ok (.dup, 1) := by decide +kernel
theorem dX5_readEnd_22 : decode cX5_readEnd 22 = .ok (.getfield 133, 3) := by decide +kernel
theorem dX5_readEnd_25 : decode cX5_readEnd 25 = .ok (.iconst 1, 1) := by decide +kernel
theorem dX5_readEnd_26 : decode cX5_readEnd 26 = .ok (.iadd, 1) := by decide +kernel
theorem dX5_readEnd_27 : decode cX5_readEnd 27 = .ok (.putfield 133, 3) := by decide +kernel
theorem dX5_readEnd_30 : decode cX5_readEnd 30 = .ok (.iconst 3, 1) := by decide +kernel
theorem dX5_readEnd_31 : decode cX5_readEnd 31 = .ok (.bipush 10, 2) := by decide +kernel
theorem dX5_readEnd_33 : decode cX5_readEnd 33 = .ok (.aload_n 0, 1) := by decide +kernel
theorem dX5_readEnd_34 : decode cX5_readEnd 34 = .ok (.getfield 158, 3) := by decide +kernel
theorem dX5_readEnd_37 : decode cX5_readEnd 37 = .ok (.imul, 1) := by decide +kernel
theorem dX5_readEnd_38 : decode cX5_readEnd 38 = .ok (.aload_n 0, 1) := by decide +kernel
theorem dX5_readEnd_39 : decode cX5_readEnd 39 = .ok (.getfield 67, 3) := by decide +kernel
theorem dX5_readEnd_42 : decode cX5_readEnd 42 = .ok (.aload_n 0, 1) := by decide +kernel
theorem dX5_readEnd_43 : decode cX5_readEnd 43 = .ok (.getfield 158, 3) := by decide +kernel
theorem dX5_readEnd_46 : decode cX5_readEnd 46 = .ok (.iaload, 1) := by decide +kernel
theorem dX5_readEnd_47 : decode cX5_readEnd 47 = .ok (.iadd, 1) := by decide +kernel
theorem dX5_readEnd_48 : decode cX5_readEnd 48 = .ok (.imul, 1) := by decide +kernel
theorem dX5_readEnd_49 : decode cX5_readEnd 49 = .ok (.istore_n 1, 1) := by decide +kernel
theorem dX5_readEnd_50 : decode cX5_readEnd 50 = .ok (.aload_n 0, 1) := by decide +kernel
theorem dX5_readEnd_51 : decode cX5_readEnd 51 = .ok (.getfield 70, 3) := by decide +kernel
theorem dX5_readEnd_54 : decode cX5_readEnd 54 = .ok (.iload_n 1, 1) := by decide +kernel
theorem dX5_readEnd_55 : decode cX5_readEnd 55 = .ok (.aload_n 0, 1) := by decide +kernel
theorem dX5_readEnd_56 : decode cX5_readEnd 56 = .ok (.iconst 0, 1) := by decide +kernel
theorem dX5_readEnd_57 : decode cX5_readEnd 57 = .ok (.bipush 9, 2) := by decide +kernel
theorem dX5_readEnd_59 : decode cX5_readEnd 59 = .ok (.invokevirtual 167, 3) := by decide +kernel
theorem dX5_readEnd_62 : decode cX5_readEnd 62 = .ok (.iastore, 1) := by decide +kernel
theorem dX5_readEnd_63 : decode cX5_readEnd 63 = .ok (.aload_n 0, 1) := by decide +kernel
theorem dX5_readEnd_64 : decode cX5_readEnd 64 = .ok (.iconst 3, 1) := by decide +kernel
theorem dX5_readEnd_65 : decode cX5_readEnd 65 = .ok (.invokevirtual 171, 3) := by decide +kernel
theorem dX5_readEnd_68 : decode cX5_readEnd 68 = .ok (.aload_n 0, 1) := by decide +kernel
theorem dX5_readEnd_69 : decode cX5_readEnd 69 = .ok (.getfield 70, 3) := by decide +kernel
theorem dX5_readEnd_72 : decode cX5_readEnd 72 = .ok (.iload_n 1, 1) := by decide +kernel
theorem dX5_readEnd_73 : decode cX5_readEnd 73 = .ok (.iconst 1, 1) := by decide +kernel
theorem dX5_readEnd_74 : decode cX5_readEnd 74 = .ok (.iadd, 1) := by decide +kernel
theorem dX5_readEnd_75 : decode cX5_readEnd 75 = .ok (.aload_n 0, 1) := by decide +kernel
theorem dX5_readEnd_76 : decode cX5_readEnd 76 = .ok (.iconst 0, 1) := by decide +kernel
theorem dX5_readEnd_77 : decode cX5_readEnd 77 = .ok (.sipush 999, 3) := by decide +kernel
theorem dX5_readEnd_80 : decode cX5_readEnd 80 = .ok (.invokevirtual 167, 3) := by decide +kernel
theorem dX5_readEnd_83 : decode cX5_readEnd 83 = .ok (.iastore, 1) := by decide +kernel
theorem dX5_readEnd_84 : decode cX5_readEnd 84 = .ok (.aload_n 0, 1) := by decide +kernel
theorem dX5_readEnd_85 : decode cX5_readEnd 85 = .ok (.iconst 4, 1) := by decide +kernel
theorem dX5_readEnd_86 : decode cX5_readEnd 86 = .ok (.invokevirtual 171, 3) := by decide +kernel
theorem dX5_readEnd_89 : decode cX5_readEnd 89 = .ok (.aload_n 0, 1) := by decide +kernel
theorem dX5_readEnd_90 : decode cX5_readEnd 90 = .ok (.getfield 70, 3) := by decide +kernel
theorem dX5_readEnd_93 : decode cX5_readEnd 93 = .ok (.iload_n 1, 1) := by decide +kernel
theorem dX5_readEnd_94 : decode cX5_readEnd 94 = .ok (.iconst 2, 1) := by decide +kernel
theorem dX5_readEnd_95 : decode cX5_readEnd 95 = .ok (.iadd, 1) := by decide +kernel
theorem dX5_readEnd_96 : decode cX5_readEnd 96 = .ok (.aload_n 0, 1) := by decide +kernel
theorem dX5_readEnd_97 : decode cX5_readEnd 97 = .ok (.bipush 9, 2) := by decide +kernel
theorem dX5_readEnd_99 : decode cX5_readEnd 99 = .ok (.invokevirtual 174, 3) := by decide +kernel
theorem dX5_readEnd_102 : decode cX5_readEnd 102 = .ok (.iconst 4, 1) := by decide +kernel
theorem dX5_readEnd_103 : decode cX5_readEnd 103 = .ok (.iadd, 1) := by decide +kernel
theorem dX5_readEnd_104 : decode cX5_readEnd 104 = .ok (.iastore, 1) := by decide +kernel
theorem dX5_readEnd_105 : decode cX5_readEnd 105 = .ok (.aload_n 0, 1) := by decide +kernel
theorem dX5_readEnd_106 : decode cX5_readEnd 106 = .ok (.bipush 59, 2) := by decide +kernel
theorem dX5_readEnd_108 : decode cX5_readEnd 108 = .ok (.invokevirtual 177, 3) := by decide +kernel
theorem dX5_readEnd_111 : decode cX5_readEnd 111 = .ok (.aload_n 0, 1) := by decide +kernel
theorem dX5_readEnd_112 : decode cX5_readEnd 112 = .ok (.getfield 67, 3) := by decide +kernel
theorem dX5_readEnd_115 : decode cX5_readEnd 115 = .ok (.aload_n 0, 1) := by decide +kernel
theorem dX5_readEnd_116 : decode cX5_readEnd 116 = .ok (.getfield 158, 3) := by decide +kernel
theorem dX5_readEnd_119 : decode cX5_readEnd 119 = .ok (.dup2, 1) := by decide +kernel
theorem dX5_readEnd_120 : decode cX5_readEnd 120 = .ok (.iaload, 1) := by decide +kernel
theorem dX5_readEnd_121 : decode cX5_readEnd 121 = .ok (.iconst 1, 1) := by decide +kernel
theorem dX5_readEnd_122 : decode cX5_readEnd 122 = .ok (.iadd, 1) := by decide +kernel
theorem dX5_readEnd_123 : decode cX5_readEnd 123 = .ok (.iastore, 1) := by decide +kernel
theorem dX5_readEnd_124 : decode cX5_readEnd 124 = .ok (.return_, 1) := by decide +kernel
theorem dX5_goOf_0 : decode cX5_goOf 0 = .ok (.aload_n 0, 1) := by decide +kernel
theorem dX5_goOf_1 : decode cX5_goOf 1 = .ok (.getfield 64, 3) := by decide +kernel
theorem dX5_goOf_4 : decode cX5_goOf 4 = .ok (.iconst 5, 1) := by decide +kernel
theorem dX5_goOf_5 : decode cX5_goOf 5 = .ok (.bipush 40, 2) := by decide +kernel
theorem dX5_goOf_7 : decode cX5_goOf 7 = .ok (.aload_n 0, 1) := by decide +kernel
theorem dX5_goOf_8 : decode cX5_goOf 8 = .ok (.getfield 155, 3) := by decide +kernel
theorem dX5_goOf_11 : decode cX5_goOf 11 = .ok (.imul, 1) := by decide +kernel
theorem dX5_goOf_12 : decode cX5_goOf 12 = .ok (.iload_n 1, 1) := by decide +kernel
theorem dX5_goOf_13 : decode cX5_goOf 13 = .ok (.iadd, 1) := by decide +kernel
theorem dX5_goOf_14 : decode cX5_goOf 14 = .ok (.imul, 1) := by decide +kernel
theorem dX5_goOf_15 : decode cX5_goOf 15 = .ok (.iload_n 2, 1) := by decide +kernel
theorem dX5_goOf_16 : decode cX5_goOf 16 = .ok (.iadd, 1) := by decide +kernel
theorem dX5_goOf_17 : decode cX5_goOf 17 = .ok (.iaload, 1) := by decide +kernel
theorem dX5_goOf_18 : decode cX5_goOf 18 = .ok (.ireturn, 1) := by decide +kernel
theorem dX5_endOf_0 : decode cX5_endOf 0 = .ok (.aload_n 0, 1) := by decide +kernel
theorem dX5_endOf_1 : decode cX5_endOf 1 = .ok (.getfield 70, 3) := by decide +kernel
theorem dX5_endOf_4 : decode cX5_endOf 4 = .ok (.iconst 3, 1) := by decide +kernel
theorem dX5_endOf_5 : decode cX5_endOf 5 = .ok (.bipush 10, 2) := by decide +kernel
theorem dX5_endOf_7 : decode cX5_endOf 7 = .ok (.aload_n 0, 1) := by decide +kernel
theorem dX5_endOf_8 : decode cX5_endOf 8 = .ok (.getfield 155, 3) := by decide +kernel
end
section
theorem dX5_endOf_11 : decode cX5_endOf 11 = .ok (.imul, 1) := by decide +kernel
theorem dX5_endOf_12 : decode cX5_endOf 12 = .ok (.iload_n 1, 1) := by decide +kernel
theorem dX5_endOf_13 : decode cX5_endOf 13 = .ok (.iadd, 1) := by decide +kernel
theorem dX5_endOf_14 : decode cX5_endOf 14 = .ok (.imul, 1) := by decide +kernel
theorem dX5_endOf_15 : decode cX5_endOf 15 = .ok (.iload_n 2, 1) := by decide +kernel
theorem dX5_endOf_16 : decode cX5_endOf 16 = .ok (.iadd, 1) := by decide +kernel
theorem dX5_endOf_17 : decode cX5_endOf 17 = .ok (.iaload, 1) := by decide +kernel
theorem dX5_endOf_18 : decode cX5_endOf 18 = .ok (.ireturn, 1) := by decide +kernel
set_option maxRecDepth 20000 in
theorem ggX5_go_X5_goOf : GoodIn wsX5_go wsX5_goOf := goodIn_r _ [8, 9, 3, 10, 11, 12, 13, 14, 15, 16, 17, 18, 19, 20, 21, 22, 23, 24, 25, 26, 27, 28, 29, 30, 31, 32, 33, 34, 35, 36, 37, 38, 39] (by decide +kernel) (by decide +kernel)
set_option maxRecDepth 20000 in
theorem gX5_go_X5_goOf : GoodIn wsX5_go (wsV RX5 180 RX5 yX5_goOf wsX5_goOf) := goodIn_app (goodIn_of _ (by decide +kernel)) ggX5_go_X5_goOf
theorem dX5_go_0 : decode cX5_go 0 = .ok (.aload_n 0, 1) := by decide +kernel
theorem dX5_go_1 : decode cX5_go 1 = .ok (.iconst 0, 1) := by decide +kernel
theorem dX5_go_2 : decode cX5_go 2 = .ok (.putfield 1, 3) := by decide +kernel
theorem dX5_go_5 : decode cX5_go 5 = .ok (.iload_n 1, 1) := by decide +kernel
theorem dX5_go_6 : decode cX5_go 6 = .ok (.ifCond .lt 25, 3) := by decide +kernel
theorem dX5_go_9 : decode cX5_go 9 = .ok (.iload_n 1, 1) := by decide +kernel
theorem dX5_go_10 : decode cX5_go 10 = .ok (.aload_n 0, 1) := by decide +kernel
theorem dX5_go_11 : decode cX5_go 11 = .ok (.getfield 61, 3) := by decide +kernel
theorem dX5_go_14 : decode cX5_go 14 = .ok (.aload_n 0, 1) := by decide +kernel
theorem dX5_go_15 : decode cX5_go 15 = .ok (.getfield 155, 3) := by decide +kernel
theorem dX5_go_18 : decode cX5_go 18 = .ok (.iaload, 1) := by decide +kernel
theorem dX5_go_19 : decode cX5_go 19 = .ok (.if_icmp .ge 12, 3) := by decide +kernel
theorem dX5_go_22 : decode cX5_go 22 = .ok (.iload_n 2, 1) := by decide +kernel
theorem dX5_go_23 : decode cX5_go 23 = .ok (.ifCond .lt 8, 3) := by decide +kernel
theorem dX5_go_26 : decode cX5_go 26 = .ok (.iload_n 2, 1) := by decide +kernel
theorem dX5_go_27 : decode cX5_go 27 = .ok (.iconst 4, 1) := by decide +kernel
theorem dX5_go_28 : decode cX5_go 28 = .ok (.if_icmp .le 7, 3) := by decide +kernel
theorem dX5_go_31 : decode cX5_go 31 = .ok (.iconst (-1), 1) := by decide +kernel
theorem dX5_go_32 : decode cX5_go 32 = .ok (.goto 9, 3) := by decide +kernel
theorem dX5_go_35 : decode cX5_go 35 = .ok (.aload_n 0, 1) := by decide +kernel
theorem dX5_go_36 : decode cX5_go 36 = .ok (.iload_n 1, 1) := by decide +kernel
theorem dX5_go_37 : decode cX5_go 37 = .ok (.iload_n 2, 1) := by decide +kernel
theorem dX5_go_38 : decode cX5_go 38 = .ok (.invokevirtual 180, 3) := by decide +kernel
theorem dX5_go_41 : decode cX5_go 41 = .ok (.ireturn, 1) := by decide +kernel
theorem dX5_isOne_0 : decode cX5_isOne 0 = .ok (.iload_n 0, 1) := by decide +kernel
theorem dX5_isOne_1 : decode cX5_isOne 1 = .ok (.iconst 1, 1) := by decide +kernel
theorem dX5_isOne_2 : decode cX5_isOne 2 = .ok (.if_icmp .lt 13, 3) := by decide +kernel
theorem dX5_isOne_5 : decode cX5_isOne 5 = .ok (.iload_n 0, 1) := by decide +kernel
theorem dX5_isOne_6 : decode cX5_isOne 6 = .ok (.bipush 99, 2) := by decide +kernel
theorem dX5_isOne_8 : decode cX5_isOne 8 = .ok (.if_icmp .gt 7, 3) := by decide +kernel
theorem dX5_isOne_11 : decode cX5_isOne 11 = .ok (.iconst 1, 1) := by decide +kernel
theorem dX5_isOne_12 : decode cX5_isOne 12 = .ok (.goto 4, 3) := by decide +kernel
theorem dX5_isOne_15 : decode cX5_isOne 15 = .ok (.iconst 0, 1) := by decide +kernel
theorem dX5_isOne_16 : decode cX5_isOne 16 = .ok (.ireturn, 1) := by decide +kernel
set_option maxRecDepth 20000 in
theorem ggX5_kinds_X5_isOne : GoodIn wsX5_kinds wsX5_isOne := goodIn_r _ [6] (by decide +kernel) (by decide +kernel)
set_option maxRecDepth 20000 in
theorem gX5_kinds_X5_isOne : GoodIn wsX5_kinds (va_wsS RX5 183 yX5_isOne wsX5_isOne) := goodIn_app (goodIn_of _ (by decide +kernel)) ggX5_kinds_X5_isOne
theorem dX5_kinds_0 : decode cX5_kinds 0 = .ok (.aload_n 0, 1) := by decide +kernel
theorem dX5_kinds_1 : decode cX5_kinds 1 = .ok (.iconst 0, 1) := by decide +kernel
theorem dX5_kinds_2 : decode cX5_kinds 2 = .ok (.putfield 1, 3) := by decide +kernel
theorem dX5_kinds_5 : decode cX5_kinds 5 = .ok (.iload_n 1, 1) := by decide +kernel
theorem dX5_kinds_6 : decode cX5_kinds 6 = .ok (.invokestatic 183, 3) := by decide +kernel
theorem dX5_kinds_9 : decode cX5_kinds 9 = .ok (.ifCond .eq 15, 3) := by decide +kernel
theorem dX5_kinds_12 : decode cX5_kinds 12 = .ok (.iload_n 2, 1) := by decide +kernel
theorem dX5_kinds_13 : decode cX5_kinds 13 = .ok (.iconst 1, 1) := by decide +kernel
theorem dX5_kinds_14 : decode cX5_kinds 14 = .ok (.if_icmp .lt 10, 3) := by decide +kernel
theorem dX5_kinds_17 : decode cX5_kinds 17 = .ok (.iload_n 2, 1) := by decide +kernel
theorem dX5_kinds_18 : decode cX5_kinds 18 = .ok (.sipush 255, 3) := by decide +kernel
theorem dX5_kinds_21 : decode cX5_kinds 21 = .ok (.if_icmp .le 5, 3) := by decide +kernel
theorem dX5_kinds_24 : decode cX5_kinds 24 = .ok (.iconst 0, 1) := by decide +kernel
theorem dX5_kinds_25 : decode cX5_kinds 25 = .ok (.ireturn, 1) := by decide +kernel
theorem dX5_kinds_26 : decode cX5_kinds 26 = .ok (.aload_n 0, 1) := by decide +kernel
theorem dX5_kinds_27 : decode cX5_kinds 27 = .ok (.getfield 73, 3) := by decide +kernel
theorem dX5_kinds_30 : decode cX5_kinds 30 = .ok (.iload_n 1, 1) := by decide +kernel
theorem dX5_kinds_31 : decode cX5_kinds 31 = .ok (.iload_n 2, 1) := by decide +kernel
theorem dX5_kinds_32 : decode cX5_kinds 32 = .ok (.iastore, 1) := by decide +kernel
theorem dX5_kinds_33 : decode cX5_kinds 33 = .ok (.iconst 1, 1) := by decide +kernel
theorem dX5_kinds_34 : decode cX5_kinds 34 = .ok (.ireturn, 1) := by decide +kernel
set_option maxRecDepth 20000 in
theorem ggX5_name_X5_isOne : GoodIn wsX5_name wsX5_isOne := goodIn_r _ [6] (by decide +kernel) (by decide +kernel)
set_option maxRecDepth 20000 in
theorem gX5_name_X5_isOne : GoodIn wsX5_name (va_wsS RX5 183 yX5_isOne wsX5_isOne) := goodIn_app (goodIn_of _ (by decide +kernel)) ggX5_name_X5_isOne
theorem dX5_name_0 : decode cX5_name 0 = .ok (.aload_n 0, 1) := by decide +kernel
theorem dX5_name_1 : decode cX5_name 1 = .ok (.iconst 0, 1) := by decide +kernel
theorem dX5_name_2 : decode cX5_name 2 = .ok (.putfield 1, 3) := by decide +kernel
theorem dX5_name_5 : decode cX5_name 5 = .ok (.iload_n 1, 1) := by decide +kernel
theorem dX5_name_6 : decode cX5_name 6 = .ok (.invokestatic 183, 3) := by decide +kernel
theorem dX5_name_9 : decode cX5_name 9 = .ok (.ifCond .ne 5, 3) := by decide +kernel
theorem dX5_name_12 : decode cX5_name 12 = .ok (.iconst 0, 1) := by decide +kernel
theorem dX5_name_13 : decode cX5_name 13 = .ok (.ireturn, 1) := by decide +kernel
theorem dX5_name_14 : decode cX5_name 14 = .ok (.aload_n 0, 1) := by decide +kernel
theorem dX5_name_15 : decode cX5_name 15 = .ok (.getfield 76, 3) := by decide +kernel
theorem dX5_name_18 : decode cX5_name 18 = .ok (.iload_n 1, 1) := by decide +kernel
theorem dX5_name_19 : decode cX5_name 19 = .ok (.iload_n 2, 1) := by decide +kernel
theorem dX5_name_20 : decode cX5_name 20 = .ok (.bastore, 1) := by decide +kernel
theorem dX5_name_21 : decode cX5_name 21 = .ok (.iconst 1, 1) := by decide +kernel
theorem dX5_name_22 : decode cX5_name 22 = .ok (.ireturn, 1) := by decide +kernel
set_option maxRecDepth 20000 in
theorem ggX5_word_X5_isOne : GoodIn wsX5_word wsX5_isOne := goodIn_r _ [8] (by decide +kernel) (by decide +kernel)
set_option maxRecDepth 20000 in
theorem gX5_word_X5_isOne : GoodIn wsX5_word (va_wsS RX5 183 yX5_isOne wsX5_isOne) := goodIn_app (goodIn_of _ (by decide +kernel)) ggX5_word_X5_isOne
theorem dX5_word_0 : decode cX5_word 0 = .ok (.aload_n 0, 1) := by decide +kernel
theorem dX5_word_1 : decode cX5_word 1 = .ok (.iconst 0, 1) := by decide +kernel
theorem dX5_word_2 : decode cX5_word 2 = .ok (.putfield 1, 3) := by decide +kernel
theorem dX5_word_5 : decode cX5_word 5 = .ok (.iload_n 1, 1) := by decide +kernel
theorem dX5_word_6 : decode cX5_word 6 = .ok (.invokestatic 183, 3) := by decide +kernel
theorem dX5_word_9 : decode cX5_word 9 = .ok (.ifCond .eq 12, 3) := by decide +kernel
theorem dX5_word_12 : decode cX5_word 12 = .ok (.aload_n 0, 1) := by decide +kernel
theorem dX5_word_13 : decode cX5_word 13 = .ok (.getfield 186, 3) := by decide +kernel
theorem dX5_word_16 : decode cX5_word 16 = .ok (.bipush 60, 2) := by decide +kernel
theorem dX5_word_18 : decode cX5_word 18 = .ok (.if_icmp .ne 5, 3) := by decide +kernel
theorem dX5_word_21 : decode cX5_word 21 = .ok (.iconst (-1), 1) := by decide +kernel
theorem dX5_word_22 : decode cX5_word 22 = .ok (.ireturn, 1) := by decide +kernel
theorem dX5_word_23 : decode cX5_word 23 = .ok (.aload_n 0, 1) := by decide +kernel
theorem dX5_word_24 : decode cX5_word 24 = .ok (.getfield 80, 3) := by decide +kernel
theorem dX5_word_27 : decode cX5_word 27 = .ok (.aload_n 0, 1) := by decide +kernel
theorem dX5_word_28 : decode cX5_word 28 = .ok (.getfield 186, 3) := by decide +kernel
theorem dX5_word_31 : decode cX5_word 31 = .ok (.iload_n 1, 1) := by decide +kernel
theorem dX5_word_32 : decode cX5_word 32 = .ok (.iastore, 1) := by decide +kernel
theorem dX5_word_33 : decode cX5_word 33 = .ok (.aload_n 0, 1) := by decide +kernel
theorem dX5_word_34 : decode cX5_word 34 = .ok (.getfield 83, 3) := by decide +kernel
theorem dX5_word_37 : decode cX5_word 37 = .ok (.aload_n 0, 1) := by decide +kernel
theorem dX5_word_38 : decode cX5_word 38 = .ok (.getfield 186, 3) := by decide +kernel
theorem dX5_word_41 : decode cX5_word 41 = .ok (.iconst (-1), 1) := by decide +kernel
theorem dX5_word_42 : decode cX5_word 42 = .ok (.iastore, 1) := by decide +kernel
theorem dX5_word_43 : decode cX5_word 43 = .ok (.aload_n 0, 1) := by decide +kernel
theorem dX5_word_44 : decode cX5_word 44 = .ok (.dup, 1) := by decide +kernel
theorem dX5_word_45 : decode cX5_word 45 = .ok (.getfield 186, 3) := by decide +kernel
theorem dX5_word_48 : decode cX5_word 48 = .ok (.iconst 1, 1) := by decide +kernel
theorem dX5_word_49 : decode cX5_word 49 = .ok (.iadd, 1) := by decide +kernel
theorem dX5_word_50 : decode cX5_word 50 = .ok (.putfield 186, 3) := by decide +kernel
theorem dX5_word_53 : decode cX5_word 53 = .ok (.aload_n 0, 1) := by decide +kernel
theorem dX5_word_54 : decode cX5_word 54 = .ok (.getfield 186, 3) := by decide +kernel
theorem dX5_word_57 : decode cX5_word 57 = .ok (.ireturn, 1) := by decide +kernel
theorem dX5_drop_0 : decode cX5_drop 0 = .ok (.aload_n 0, 1) := by decide +kernel
theorem dX5_drop_1 : decode cX5_drop 1 = .ok (.iconst 0, 1) := by decide +kernel
theorem dX5_drop_2 : decode cX5_drop 2 = .ok (.putfield 1, 3) := by decide +kernel
theorem dX5_drop_5 : decode cX5_drop 5 = .ok (.aload_n 0, 1) := by decide +kernel
theorem dX5_drop_6 : decode cX5_drop 6 = .ok (.getfield 186, 3) := by decide +kernel
theorem dX5_drop_9 : decode cX5_drop 9 = .ok (.ifCond .ne 5, 3) := by decide +kernel
theorem dX5_drop_12 : decode cX5_drop 12 = .ok (.iconst (-1), 1) := by decide +kernel
theorem dX5_drop_13 : decode cX5_drop 13 = .ok (.ireturn, 1) := by decide +kernel
theorem dX5_drop_14 : decode cX5_drop 14 = .ok (.aload_n 0, 1) := by decide +kernel
theorem dX5_drop_15 : decode cX5_drop 15 = .ok (.dup, 1) := by decide +kernel
theorem dX5_drop_16 : decode cX5_drop 16 = .ok (.getfield 186, 3) := by decide +kernel
theorem dX5_drop_19 : decode cX5_drop 19 = .ok (.iconst 1, 1) := by decide +kernel
theorem dX5_drop_20 : decode cX5_drop 20 = .ok (.isub, 1) := by decide +kernel
theorem dX5_drop_21 : decode cX5_drop 21 = .ok (.putfield 186, 3) := by decide +kernel
theorem dX5_drop_24 : decode cX5_drop 24 = .ok (.aload_n 0, 1) := by decide +kernel
theorem dX5_drop_25 : decode cX5_drop 25 = .ok (.getfield 186, 3) := by decide +kernel
theorem dX5_drop_28 : decode cX5_drop 28 = .ok (.ireturn, 1) := by decide +kernel
theorem dX5_hand_0 : decode cX5_hand 0 = .ok (.aload_n 0, 1) := by decide +kernel
theorem dX5_hand_1 : decode cX5_hand 1 = .ok (.iconst 0, 1) := by decide +kernel
theorem dX5_hand_2 : decode cX5_hand 2 = .ok (.putfield 1, 3) := by decide +kernel
theorem dX5_hand_5 : decode cX5_hand 5 = .ok (.iload_n 1, 1) := by decide +kernel
theorem dX5_hand_6 : decode cX5_hand 6 = .ok (.ifCond .lt 31, 3) := by decide +kernel
theorem dX5_hand_9 : decode cX5_hand 9 = .ok (.iload_n 1, 1) := by decide +kernel
theorem dX5_hand_10 : decode cX5_hand 10 = .ok (.aload_n 0, 1) := by decide +kernel
theorem dX5_hand_11 : decode cX5_hand 11 = .ok (.getfield 186, 3) := by decide +kernel
theorem dX5_hand_14 : decode cX5_hand 14 = .ok (.if_icmp .ge 23, 3) := by decide +kernel
theorem dX5_hand_17 : decode cX5_hand 17 = .ok (.iload_n 2, 1) := by decide +kernel
theorem dX5_hand_18 : decode cX5_hand 18 = .ok (.iconst (-1), 1) := by decide +kernel
theorem dX5_hand_19 : decode cX5_hand 19 = .ok (.if_icmp .lt 18, 3) := by decide +kernel
theorem dX5_hand_22 : decode cX5_hand 22 = .ok (.iload_n 2, 1) := by decide +kernel
theorem dX5_hand_23 : decode cX5_hand 23 = .ok (.bipush 6, 2) := by decide +kernel
theorem dX5_hand_25 : decode cX5_hand 25 = .ok (.if_icmp .gt 12, 3) := by decide +kernel
theorem dX5_hand_28 : decode cX5_hand 28 = .ok (.iload_n 1, 1) := by decide +kernel
theorem dX5_hand_29 : decode cX5_hand 29 = .ok (.ifCond .ne 10, 3) := by decide +kernel
theorem dX5_hand_32 : decode cX5_hand 32 = .ok (.iload_n 2, 1) := by decide +kernel
theorem dX5_hand_33 : decode cX5_hand 33 = .ok (.iconst 3, 1) := by decide +kernel
theorem dX5_hand_34 : decode cX5_hand 34 = .ok (.if_icmp .le 5, 3) := by decide +kernel
theorem dX5_hand_37 : decode cX5_hand 37 = .ok (.iconst 0, 1) := by decide +kernel
theorem dX5_hand_38 : decode cX5_hand 38 = .ok (.ireturn, 1) := by decide +kernel
theorem dX5_hand_39 : decode cX5_hand 39 = .ok (.aload_n 0, 1) := by decide +kernel
theorem dX5_hand_40 : decode cX5_hand 40 = .ok (.getfield 83, 3) := by decide +kernel
theorem dX5_hand_43 : decode cX5_hand 43 = .ok (.iload_n 1, 1) := by decide +kernel
theorem dX5_hand_44 : decode cX5_hand 44 = .ok (.iload_n 2, 1) := by decide +kernel
theorem dX5_hand_45 : decode cX5_hand 45 = .ok (.iastore, 1) := by decide +kernel
theorem dX5_hand_46 : decode cX5_hand 46 = .ok (.iconst 1, 1) := by decide +kernel
theorem dX5_hand_47 : decode cX5_hand 47 = .ok (.ireturn, 1) := by decide +kernel
set_option maxRecDepth 20000 in
theorem ggX5_stepTo_X5_goOf : GoodIn wsX5_stepTo wsX5_goOf := goodIn_r _ [8, 9, 10, 16, 17, 18, 19, 20, 21, 22, 23, 24, 25, 26, 27, 28, 29, 30, 31, 32, 33, 34, 35, 36, 37, 38, 39, 40, 41, 42, 43, 44, 45] (by decide +kernel) (by decide +kernel)
set_option maxRecDepth 20000 in
theorem gX5_stepTo_X5_goOf : GoodIn wsX5_stepTo (wsV RX5 180 RX5 yX5_goOf wsX5_goOf) := goodIn_app (goodIn_of _ (by decide +kernel)) ggX5_stepTo_X5_goOf
set_option maxRecDepth 20000 in
theorem ggX5_stepTo_X5_endOf : GoodIn wsX5_stepTo wsX5_endOf := goodIn_r _ [14, 15, 10, 16, 17, 18, 19, 20, 21, 22, 23, 24, 25, 26, 27, 28, 29, 30, 31, 32, 33, 34, 35, 36, 37, 38, 39, 40, 41, 42, 43, 44, 45] (by decide +kernel) (by decide +kernel)
set_option maxRecDepth 20000 in
theorem gX5_stepTo_X5_endOf : GoodIn wsX5_stepTo (wsV RX5 189 RX5 yX5_endOf wsX5_endOf) := goodIn_app (goodIn_of _ (by decide +kernel)) ggX5_stepTo_X5_endOf
theorem dX5_stepTo_0 : decode cX5_stepTo 0 = .ok (.aload_n 0, 1) := by decide +kernel
theorem dX5_stepTo_1 : decode cX5_stepTo 1 = .ok (.getfield 83, 3) := by decide +kernel
theorem dX5_stepTo_4 : decode cX5_stepTo 4 = .ok (.iload_n 1, 1) := by decide +kernel
theorem dX5_stepTo_5 : decode cX5_stepTo 5 = .ok (.iaload, 1) := by decide +kernel
theorem dX5_stepTo_6 : decode cX5_stepTo 6 = .ok (.istore 5, 2) := by decide +kernel
theorem dX5_stepTo_8 : decode cX5_stepTo 8 = .ok (.aload_n 0, 1) := by decide +kernel
theorem dX5_stepTo_9 : decode cX5_stepTo 9 = .ok (.iload 4, 2) := by decide +kernel
theorem dX5_stepTo_11 : decode cX5_stepTo 11 = .ok (.iconst 4, 1) := by decide +kernel
theorem dX5_stepTo_12 : decode cX5_stepTo 12 = .ok (.invokevirtual 180, 3) := by decide +kernel
theorem dX5_stepTo_15 : decode cX5_stepTo 15 = .ok (.istore 6, 2) := by decide +kernel
theorem dX5_stepTo_17 : decode cX5_stepTo 17 = .ok (.iload_n 2, 1) := by decide +kernel
theorem dX5_stepTo_18 : decode cX5_stepTo 18 = .ok (.bipush 10, 2) := by decide +kernel
theorem dX5_stepTo_20 : decode cX5_stepTo 20 = .ok (.if_icmp .lt 7, 3) := by decide +kernel
theorem dX5_stepTo_23 : decode cX5_stepTo 23 = .ok (.iconst 1, 1) := by decide +kernel
theorem dX5_stepTo_24 : decode cX5_stepTo 24 = .ok (.goto 4, 3) := by decide +kernel
theorem dX5_stepTo_27 : decode cX5_stepTo 27 = .ok (.iconst 0, 1) := by decide +kernel
theorem dX5_stepTo_28 : decode cX5_stepTo 28 = .ok (.istore 7, 2) := by decide +kernel
theorem dX5_stepTo_30 : decode cX5_stepTo 30 = .ok (.iload_n 3, 1) := by decide +kernel
theorem dX5_stepTo_31 : decode cX5_stepTo 31 = .ok (.ifCond .lt 40, 3) := by decide +kernel
theorem dX5_stepTo_34 : decode cX5_stepTo 34 = .ok (.iload_n 1, 1) := by decide +kernel
theorem dX5_stepTo_35 : decode cX5_stepTo 35 = .ok (.ifCond .eq 34, 3) := by decide +kernel
theorem dX5_stepTo_38 : decode cX5_stepTo 38 = .ok (.iload 7, 2) := by decide +kernel
theorem dX5_stepTo_40 : decode cX5_stepTo 40 = .ok (.ifCond .ne 29, 3) := by decide +kernel
theorem dX5_stepTo_43 : decode cX5_stepTo 43 = .ok (.aload_n 0, 1) := by decide +kernel
theorem dX5_stepTo_44 : decode cX5_stepTo 44 = .ok (.iload_n 3, 1) := by decide +kernel
theorem dX5_stepTo_45 : decode cX5_stepTo 45 = .ok (.iconst 0, 1) := by decide +kernel
theorem dX5_stepTo_46 : decode cX5_stepTo 46 = .ok (.invokevirtual 189, 3) := by decide +kernel
theorem dX5_stepTo_49 : decode cX5_stepTo 49 = .ok (.iload_n 2, 1) := by decide +kernel
theorem dX5_stepTo_50 : decode cX5_stepTo 50 = .ok (.if_icmp .ne 19, 3) := by decide +kernel
theorem dX5_stepTo_53 : decode cX5_stepTo 53 = .ok (.iload 5, 2) := by decide +kernel
theorem dX5_stepTo_55 : decode cX5_stepTo 55 = .ok (.ifCond .lt 30, 3) := by decide +kernel
theorem dX5_stepTo_58 : decode cX5_stepTo 58 = .ok (.iload 5, 2) := by decide +kernel
theorem dX5_stepTo_60 : decode cX5_stepTo 60 = .ok (.aload_n 0, 1) := by decide +kernel
theorem dX5_stepTo_61 : decode cX5_stepTo 61 = .ok (.iload_n 3, 1) := by decide +kernel
theorem dX5_stepTo_62 : decode cX5_stepTo 62 = .ok (.iconst 2, 1) := by decide +kernel
theorem dX5_stepTo_63 : decode cX5_stepTo 63 = .ok (.invokevirtual 189, 3) := by decide +kernel
theorem dX5_stepTo_66 : decode cX5_stepTo 66 = .ok (.if_icmp .eq 19, 3) := by decide +kernel
theorem dX5_stepTo_69 : decode cX5_stepTo 69 = .ok (.iconst (-1), 1) := by decide +kernel
theorem dX5_stepTo_70 : decode cX5_stepTo 70 = .ok (.ireturn, 1) := by decide +kernel
theorem dX5_stepTo_71 : decode cX5_stepTo 71 = .ok (.iload 5, 2) := by decide +kernel
theorem dX5_stepTo_73 : decode cX5_stepTo 73 = .ok (.ifCond .lt 12, 3) := by decide +kernel
theorem dX5_stepTo_76 : decode cX5_stepTo 76 = .ok (.iload 5, 2) := by decide +kernel
theorem dX5_stepTo_78 : decode cX5_stepTo 78 = .ok (.iload 6, 2) := by decide +kernel
theorem dX5_stepTo_80 : decode cX5_stepTo 80 = .ok (.if_icmp .eq 5, 3) := by decide +kernel
theorem dX5_stepTo_83 : decode cX5_stepTo 83 = .ok (.iconst (-1), 1) := by decide +kernel
theorem dX5_stepTo_84 : decode cX5_stepTo 84 = .ok (.ireturn, 1) := by decide +kernel
theorem dX5_stepTo_85 : decode cX5_stepTo 85 = .ok (.iload_n 3, 1) := by decide +kernel
theorem dX5_stepTo_86 : decode cX5_stepTo 86 = .ok (.ifCond .lt 7, 3) := by decide +kernel
theorem dX5_stepTo_89 : decode cX5_stepTo 89 = .ok (.iconst 0, 1) := by decide +kernel
theorem dX5_stepTo_90 : decode cX5_stepTo 90 = .ok (.goto 7, 3) := by decide +kernel
theorem dX5_stepTo_93 : decode cX5_stepTo 93 = .ok (.iload_n 2, 1) := by decide +kernel
theorem dX5_stepTo_94 : decode cX5_stepTo 94 = .ok (.bipush 10, 2) := by decide +kernel
theorem dX5_stepTo_96 : decode cX5_stepTo 96 = .ok (.irem, 1) := by decide +kernel
theorem dX5_stepTo_97 : decode cX5_stepTo 97 = .ok (.istore 8, 2) := by decide +kernel
theorem dX5_stepTo_99 : decode cX5_stepTo 99 = .ok (.aload_n 0, 1) := by decide +kernel
theorem dX5_stepTo_100 : decode cX5_stepTo 100 = .ok (.iload 4, 2) := by decide +kernel
theorem dX5_stepTo_102 : decode cX5_stepTo 102 = .ok (.iconst 0, 1) := by decide +kernel
theorem dX5_stepTo_103 : decode cX5_stepTo 103 = .ok (.invokevirtual 180, 3) := by decide +kernel
theorem dX5_stepTo_106 : decode cX5_stepTo 106 = .ok (.iload 8, 2) := by decide +kernel
theorem dX5_stepTo_108 : decode cX5_stepTo 108 = .ok (.if_icmp .ne 49, 3) := by decide +kernel
theorem dX5_stepTo_111 : decode cX5_stepTo 111 = .ok (.aload_n 0, 1) := by decide +kernel
theorem dX5_stepTo_112 : decode cX5_stepTo 112 = .ok (.getfield 73, 3) := by decide +kernel
theorem dX5_stepTo_115 : decode cX5_stepTo 115 = .ok (.aload_n 0, 1) := by decide +kernel
theorem dX5_stepTo_116 : decode cX5_stepTo 116 = .ok (.getfield 80, 3) := by decide +kernel
theorem dX5_stepTo_119 : decode cX5_stepTo 119 = .ok (.iload_n 1, 1) := by decide +kernel
theorem dX5_stepTo_120 : decode cX5_stepTo 120 = .ok (.iaload, 1) := by decide +kernel
theorem dX5_stepTo_121 : decode cX5_stepTo 121 = .ok (.iaload, 1) := by decide +kernel
theorem dX5_stepTo_122 : decode cX5_stepTo 122 = .ok (.aload_n 0, 1) := by decide +kernel
theorem dX5_stepTo_123 : decode cX5_stepTo 123 = .ok (.iload 4, 2) := by decide +kernel
theorem dX5_stepTo_125 : decode cX5_stepTo 125 = .ok (.iconst 1, 1) := by decide +kernel
theorem dX5_stepTo_126 : decode cX5_stepTo 126 = .ok (.invokevirtual 180, 3) := by decide +kernel
theorem dX5_stepTo_129 : decode cX5_stepTo 129 = .ok (.ishr, 1) := by decide +kernel
theorem dX5_stepTo_130 : decode cX5_stepTo 130 = .ok (.iconst 1, 1) := by decide +kernel
theorem dX5_stepTo_131 : decode cX5_stepTo 131 = .ok (.iand, 1) := by decide +kernel
theorem dX5_stepTo_132 : decode cX5_stepTo 132 = .ok (.ifCond .eq 25, 3) := by decide +kernel
theorem dX5_stepTo_135 : decode cX5_stepTo 135 = .ok (.iload 6, 2) := by decide +kernel
theorem dX5_stepTo_137 : decode cX5_stepTo 137 = .ok (.iconst 2, 1) := by decide +kernel
theorem dX5_stepTo_138 : decode cX5_stepTo 138 = .ok (.if_icmp .ne 8, 3) := by decide +kernel
theorem dX5_stepTo_141 : decode cX5_stepTo 141 = .ok (.iload 7, 2) := by decide +kernel
theorem dX5_stepTo_143 : decode cX5_stepTo 143 = .ok (.ifCond .ne 14, 3) := by decide +kernel
theorem dX5_stepTo_146 : decode cX5_stepTo 146 = .ok (.iload 6, 2) := by decide +kernel
theorem dX5_stepTo_148 : decode cX5_stepTo 148 = .ok (.iconst 3, 1) := by decide +kernel
theorem dX5_stepTo_149 : decode cX5_stepTo 149 = .ok (.if_icmp .ne 10, 3) := by decide +kernel
theorem dX5_stepTo_152 : decode cX5_stepTo 152 = .ok (.iload 7, 2) := by decide +kernel
theorem dX5_stepTo_154 : decode cX5_stepTo 154 = .ok (.ifCond .ne 5, 3) := by decide +kernel
theorem dX5_stepTo_157 : decode cX5_stepTo 157 = .ok (.iconst (-1), 1) := by decide +kernel
theorem dX5_stepTo_158 : decode cX5_stepTo 158 = .ok (.ireturn, 1) := by decide +kernel
theorem dX5_stepTo_159 : decode cX5_stepTo 159 = .ok (.iload 6, 2) := by decide +kernel
theorem dX5_stepTo_161 : decode cX5_stepTo 161 = .ok (.iconst 2, 1) := by decide +kernel
theorem dX5_stepTo_162 : decode cX5_stepTo 162 = .ok (.if_icmp .eq 14, 3) := by decide +kernel
theorem dX5_stepTo_165 : decode cX5_stepTo 165 = .ok (.iload 6, 2) := by decide +kernel
theorem dX5_stepTo_167 : decode cX5_stepTo 167 = .ok (.iconst 3, 1) := by decide +kernel
theorem dX5_stepTo_168 : decode cX5_stepTo 168 = .ok (.if_icmp .eq 12, 3) := by decide +kernel
theorem dX5_stepTo_171 : decode cX5_stepTo 171 = .ok (.iload 7, 2) := by decide +kernel
theorem dX5_stepTo_173 : decode cX5_stepTo 173 = .ok (.ifCond .eq 7, 3) := by decide +kernel
theorem dX5_stepTo_176 : decode cX5_stepTo 176 = .ok (.iconst 1, 1) := by decide +kernel
theorem dX5_stepTo_177 : decode cX5_stepTo 177 = .ok (.goto 4, 3) := by decide +kernel
theorem dX5_stepTo_180 : decode cX5_stepTo 180 = .ok (.iconst 0, 1) := by decide +kernel
theorem dX5_stepTo_181 : decode cX5_stepTo 181 = .ok (.istore 9, 2) := by decide +kernel
theorem dX5_stepTo_183 : decode cX5_stepTo 183 = .ok (.aload_n 0, 1) := by decide +kernel
theorem dX5_stepTo_184 : decode cX5_stepTo 184 = .ok (.iload 4, 2) := by decide +kernel
theorem dX5_stepTo_186 : decode cX5_stepTo 186 = .ok (.iconst 2, 1) := by decide +kernel
theorem dX5_stepTo_187 : decode cX5_stepTo 187 = .ok (.invokevirtual 180, 3) := by decide +kernel
theorem dX5_stepTo_190 : decode cX5_stepTo 190 = .ok (.iload 9, 2) := by decide +kernel
theorem dX5_stepTo_192 : decode cX5_stepTo 192 = .ok (.ifCond .eq 8, 3) := by decide +kernel
theorem dX5_stepTo_195 : decode cX5_stepTo 195 = .ok (.bipush 10, 2) := by decide +kernel
theorem dX5_stepTo_197 : decode cX5_stepTo 197 = .ok (.goto 4, 3) := by decide +kernel
theorem dX5_stepTo_200 : decode cX5_stepTo 200 = .ok (.iconst 0, 1) := by decide +kernel
theorem dX5_stepTo_201 : decode cX5_stepTo 201 = .ok (.iadd, 1) := by decide +kernel
theorem dX5_stepTo_202 : decode cX5_stepTo 202 = .ok (.ireturn, 1) := by decide +kernel
set_option maxRecDepth 20000 in
theorem ggX5_costOf_X5_goOf : GoodIn wsX5_costOf wsX5_goOf := goodIn_r _ [5, 6, 7, 13, 14, 15, 16, 17, 18, 19, 20, 21, 22, 23, 24, 25, 26, 27, 28, 29, 30, 31, 32, 33, 34, 35, 36, 37, 38, 39, 40, 41, 42] (by decide +kernel) (by decide +kernel)
set_option maxRecDepth 20000 in
theorem gX5_costOf_X5_goOf : GoodIn wsX5_costOf (wsV RX5 180 RX5 yX5_goOf wsX5_goOf) := goodIn_app (goodIn_of _ (by decide +kernel)) ggX5_costOf_X5_goOf
set_option maxRecDepth 20000 in
theorem ggX5_costOf_X5_endOf : GoodIn wsX5_costOf wsX5_endOf := goodIn_r _ [11, 12, 7, 13, 14, 15, 16, 17, 18, 19, 20, 21, 22, 23, 24, 25, 26, 27, 28, 29, 30, 31, 32, 33, 34, 35, 36, 37, 38, 39, 40, 41, 42] (by decide +kernel) (by decide +kernel)
set_option maxRecDepth 20000 in
theorem gX5_costOf_X5_endOf : GoodIn wsX5_costOf (wsV RX5 189 RX5 yX5_endOf wsX5_endOf) := goodIn_app (goodIn_of _ (by decide +kernel)) ggX5_costOf_X5_endOf
theorem dX5_costOf_0 : decode cX5_costOf 0 = .ok (.aload_n 0, 1) := by decide +kernel
theorem dX5_costOf_1 : decode cX5_costOf 1 = .ok (.iload_n 2, 1) := by decide +kernel
theorem dX5_costOf_2 : decode cX5_costOf 2 = .ok (.iconst 3, 1) := by decide +kernel
theorem dX5_costOf_3 : decode cX5_costOf 3 = .ok (.invokevirtual 180, 3) := by decide +kernel
theorem dX5_costOf_6 : decode cX5_costOf 6 = .ok (.iload_n 1, 1) := by decide +kernel
theorem dX5_costOf_7 : decode cX5_costOf 7 = .ok (.ifCond .lt 12, 3) := by decide +kernel
theorem dX5_costOf_10 : decode cX5_costOf 10 = .ok (.aload_n 0, 1) := by decide +kernel
theorem dX5_costOf_11 : decode cX5_costOf 11 = .ok (.iload_n 1, 1) := by decide +kernel
theorem dX5_costOf_12 : decode cX5_costOf 12 = .ok (.iconst 1, 1) := by decide +kernel
theorem dX5_costOf_13 : decode cX5_costOf 13 = .ok (.invokevirtual 189, 3) := by decide +kernel
theorem dX5_costOf_16 : decode cX5_costOf 16 = .ok (.goto 4, 3) := by decide +kernel
theorem dX5_costOf_19 : decode cX5_costOf 19 = .ok (.iconst 0, 1) := by decide +kernel
theorem dX5_costOf_20 : decode cX5_costOf 20 = .ok (.iadd, 1) := by decide +kernel
theorem dX5_costOf_21 : decode cX5_costOf 21 = .ok (.ireturn, 1) := by decide +kernel
theorem dX5_offers_0 : decode cX5_offers 0 = .ok (.iload_n 2, 1) := by decide +kernel
theorem dX5_offers_1 : decode cX5_offers 1 = .ok (.aload_n 0, 1) := by decide +kernel
theorem dX5_offers_2 : decode cX5_offers 2 = .ok (.getfield 86, 3) := by decide +kernel
theorem dX5_offers_5 : decode cX5_offers 5 = .ok (.iload_n 1, 1) := by decide +kernel
theorem dX5_offers_6 : decode cX5_offers 6 = .ok (.iaload, 1) := by decide +kernel
theorem dX5_offers_7 : decode cX5_offers 7 = .ok (.if_icmp .ge 25, 3) := by decide +kernel
theorem dX5_offers_10 : decode cX5_offers 10 = .ok (.aload_n 0, 1) := by decide +kernel
theorem dX5_offers_11 : decode cX5_offers 11 = .ok (.getfield 89, 3) := by decide +kernel
theorem dX5_offers_14 : decode cX5_offers 14 = .ok (.iload_n 1, 1) := by decide +kernel
theorem dX5_offers_15 : decode cX5_offers 15 = .ok (.aload_n 0, 1) := by decide +kernel
theorem dX5_offers_16 : decode cX5_offers 16 = .ok (.getfield 86, 3) := by decide +kernel
theorem dX5_offers_19 : decode cX5_offers 19 = .ok (.iload_n 1, 1) := by decide +kernel
theorem dX5_offers_20 : decode cX5_offers 20 = .ok (.iaload, 1) := by decide +kernel
theorem dX5_offers_21 : decode cX5_offers 21 = .ok (.iastore, 1) := by decide +kernel
theorem dX5_offers_22 : decode cX5_offers 22 = .ok (.aload_n 0, 1) := by decide +kernel
theorem dX5_offers_23 : decode cX5_offers 23 = .ok (.getfield 86, 3) := by decide +kernel
theorem dX5_offers_26 : decode cX5_offers 26 = .ok (.iload_n 1, 1) := by decide +kernel
theorem dX5_offers_27 : decode cX5_offers 27 = .ok (.iload_n 2, 1) := by decide +kernel
theorem dX5_offers_28 : decode cX5_offers 28 = .ok (.iastore, 1) := by decide +kernel
theorem dX5_offers_29 : decode cX5_offers 29 = .ok (.goto 20, 3) := by decide +kernel
theorem dX5_offers_32 : decode cX5_offers 32 = .ok (.iload_n 2, 1) := by decide +kernel
theorem dX5_offers_33 : decode cX5_offers 33 = .ok (.aload_n 0, 1) := by decide +kernel
theorem dX5_offers_34 : decode cX5_offers 34 = .ok (.getfield 89, 3) := by decide +kernel
theorem dX5_offers_37 : decode cX5_offers 37 = .ok (.iload_n 1, 1) := by decide +kernel
theorem dX5_offers_38 : decode cX5_offers 38 = .ok (.iaload, 1) := by decide +kernel
theorem dX5_offers_39 : decode cX5_offers 39 = .ok (.if_icmp .ge 10, 3) := by decide +kernel
theorem dX5_offers_42 : decode cX5_offers 42 = .ok (.aload_n 0, 1) := by decide +kernel
theorem dX5_offers_43 : decode cX5_offers 43 = .ok (.getfield 89, 3) := by decide +kernel
theorem dX5_offers_46 : decode cX5_offers 46 = .ok (.iload_n 1, 1) := by decide +kernel
theorem dX5_offers_47 : decode cX5_offers 47 = .ok (.iload_n 2, 1) := by decide +kernel
theorem dX5_offers_48 : decode cX5_offers 48 = .ok (.iastore, 1) := by decide +kernel
theorem dX5_offers_49 : decode cX5_offers 49 = .ok (.return_, 1) := by decide +kernel
set_option maxRecDepth 20000 in
theorem ggX5_laysOut_X5_stepTo : GoodIn wsX5_laysOut wsX5_stepTo := goodIn_r _ [12, 13, 14, 15, 16, 17, 18, 11, 19, 20, 6, 21, 22, 23, 24, 25, 38, 39, 40, 41, 42, 43, 44, 45, 46, 47, 48, 49, 50, 51, 52, 53, 54, 55, 56, 57, 58, 59, 60, 61, 62, 63, 64, 65, 66, 67] (by decide +kernel) (by decide +kernel)
set_option maxRecDepth 20000 in
theorem gX5_laysOut_X5_stepTo : GoodIn wsX5_laysOut (wsV RX5 193 RX5 yX5_stepTo wsX5_stepTo) := goodIn_app (goodIn_of _ (by decide +kernel)) ggX5_laysOut_X5_stepTo
set_option maxRecDepth 20000 in
theorem ggX5_laysOut_X5_costOf : GoodIn wsX5_laysOut wsX5_costOf := goodIn_r _ [29, 16, 17, 18, 11, 19, 20, 6, 21, 22, 23, 24, 25, 38, 39, 40, 41, 42, 43, 44, 45, 46, 47, 48, 49, 50, 51, 52, 53, 54, 55, 56, 57, 58, 59, 60, 61, 62, 63, 64, 65, 66, 67] (by decide +kernel) (by decide +kernel)
set_option maxRecDepth 20000 in
theorem gX5_laysOut_X5_costOf : GoodIn wsX5_laysOut (wsV RX5 197 RX5 yX5_costOf wsX5_costOf) := goodIn_app (goodIn_of _ (by decide +kernel)) ggX5_laysOut_X5_costOf
set_option maxRecDepth 20000 in
theorem ggX5_laysOut_X5_adds : GoodIn wsX5_laysOut wsX5_adds := goodIn_r _ [33, 2, 3, 4, 34, 35, 36, 11, 37, 38, 39, 40, 41, 42, 43, 44, 45, 46, 47, 48, 49, 50, 51, 52, 53, 54, 55, 56, 57, 58, 59, 60, 61, 62, 63, 64, 65, 66, 67] (by decide +kernel) (by decide +kernel)
set_option maxRecDepth 20000 in
theorem gX5_laysOut_X5_adds : GoodIn wsX5_laysOut (wsV RX5 200 RX5 yX5_adds wsX5_adds) := goodIn_app (goodIn_of _ (by decide +kernel)) ggX5_laysOut_X5_adds
theorem dX5_laysOut_0 : decode cX5_laysOut 0 = .ok (.aload_n 0, 1) := by decide +kernel
theorem dX5_laysOut_1 : decode cX5_laysOut 1 = .ok (.getfield 186, 3) := by decide +kernel
theorem dX5_laysOut_4 : decode cX5_laysOut 4 = .ok (.iconst 1, 1) := by decide +kernel
theorem dX5_laysOut_5 : decode cX5_laysOut 5 = .ok (.isub, 1) := by decide +kernel
theorem dX5_laysOut_6 : decode cX5_laysOut 6 = .ok (.istore_n 1, 1) := by decide +kernel
theorem dX5_laysOut_7 : decode cX5_laysOut 7 = .ok (.iload_n 1, 1) := by decide +kernel
theorem dX5_laysOut_8 : decode cX5_laysOut 8 = .ok (.ifCond .lt 131, 3) := by decide +kernel
theorem dX5_laysOut_11 : decode cX5_laysOut 11 = .ok (.iconst 0, 1) := by decide +kernel
theorem dX5_laysOut_12 : decode cX5_laysOut 12 = .ok (.istore_n 2, 1) := by decide +kernel
theorem dX5_laysOut_13 : decode cX5_laysOut 13 = .ok (.iload_n 2, 1) := by decide +kernel
theorem dX5_laysOut_14 : decode cX5_laysOut 14 = .ok (.bipush 20, 2) := by decide +kernel
theorem dX5_laysOut_16 : decode cX5_laysOut 16 = .ok (.if_icmp .ge 117, 3) := by decide +kernel
theorem dX5_laysOut_19 : decode cX5_laysOut 19 = .ok (.bipush 20, 2) := by decide +kernel
theorem dX5_laysOut_21 : decode cX5_laysOut 21 = .ok (.iload_n 1, 1) := by decide +kernel
theorem dX5_laysOut_22 : decode cX5_laysOut 22 = .ok (.imul, 1) := by decide +kernel
theorem dX5_laysOut_23 : decode cX5_laysOut 23 = .ok (.iload_n 2, 1) := by decide +kernel
theorem dX5_laysOut_24 : decode cX5_laysOut 24 = .ok (.iadd, 1) := by decide +kernel
theorem dX5_laysOut_25 : decode cX5_laysOut 25 = .ok (.istore_n 3, 1) := by decide +kernel
theorem dX5_laysOut_26 : decode cX5_laysOut 26 = .ok (.aload_n 0, 1) := by decide +kernel
theorem dX5_laysOut_27 : decode cX5_laysOut 27 = .ok (.getfield 86, 3) := by decide +kernel
theorem dX5_laysOut_30 : decode cX5_laysOut 30 = .ok (.iload_n 3, 1) := by decide +kernel
theorem dX5_laysOut_31 : decode cX5_laysOut 31 = .ok (.ldc 192, 2) := by decide +kernel
theorem dX5_laysOut_33 : decode cX5_laysOut 33 = .ok (.iastore, 1) := by decide +kernel
theorem dX5_laysOut_34 : decode cX5_laysOut 34 = .ok (.aload_n 0, 1) := by decide +kernel
theorem dX5_laysOut_35 : decode cX5_laysOut 35 = .ok (.getfield 89, 3) := by decide +kernel
theorem dX5_laysOut_38 : decode cX5_laysOut 38 = .ok (.iload_n 3, 1) := by decide +kernel
theorem dX5_laysOut_39 : decode cX5_laysOut 39 = .ok (.ldc 192, 2) := by decide +kernel
theorem dX5_laysOut_41 : decode cX5_laysOut 41 = .ok (.iastore, 1) := by decide +kernel
theorem dX5_laysOut_42 : decode cX5_laysOut 42 = .ok (.iconst (-1), 1) := by decide +kernel
theorem dX5_laysOut_43 : decode cX5_laysOut 43 = .ok (.istore 4, 2) := by decide +kernel
theorem dX5_laysOut_45 : decode cX5_laysOut 45 = .ok (.iload 4, 2) := by decide +kernel
theorem dX5_laysOut_47 : decode cX5_laysOut 47 = .ok (.aload_n 0, 1) := by decide +kernel
theorem dX5_laysOut_48 : decode cX5_laysOut 48 = .ok (.getfield 67, 3) := by decide +kernel
theorem dX5_laysOut_51 : decode cX5_laysOut 51 = .ok (.aload_n 0, 1) := by decide +kernel
theorem dX5_laysOut_52 : decode cX5_laysOut 52 = .ok (.getfield 155, 3) := by decide +kernel
theorem dX5_laysOut_55 : decode cX5_laysOut 55 = .ok (.iaload, 1) := by decide +kernel
theorem dX5_laysOut_56 : decode cX5_laysOut 56 = .ok (.if_icmp .ge 71, 3) := by decide +kernel
theorem dX5_laysOut_59 : decode cX5_laysOut 59 = .ok (.iconst 0, 1) := by decide +kernel
theorem dX5_laysOut_60 : decode cX5_laysOut 60 = .ok (.istore 5, 2) := by decide +kernel
theorem dX5_laysOut_62 : decode cX5_laysOut 62 = .ok (.iload 5, 2) := by decide +kernel
theorem dX5_laysOut_64 : decode cX5_laysOut 64 = .ok (.aload_n 0, 1) := by decide +kernel
theorem dX5_laysOut_65 : decode cX5_laysOut 65 = .ok (.getfield 61, 3) := by decide +kernel
theorem dX5_laysOut_68 : decode cX5_laysOut 68 = .ok (.aload_n 0, 1) := by decide +kernel
theorem dX5_laysOut_69 : decode cX5_laysOut 69 = .ok (.getfield 155, 3) := by decide +kernel
theorem dX5_laysOut_72 : decode cX5_laysOut 72 = .ok (.iaload, 1) := by decide +kernel
theorem dX5_laysOut_73 : decode cX5_laysOut 73 = .ok (.if_icmp .ge 48, 3) := by decide +kernel
theorem dX5_laysOut_76 : decode cX5_laysOut 76 = .ok (.aload_n 0, 1) := by decide +kernel
theorem dX5_laysOut_77 : decode cX5_laysOut 77 = .ok (.iload_n 1, 1) := by decide +kernel
theorem dX5_laysOut_78 : decode cX5_laysOut 78 = .ok (.iload_n 2, 1) := by decide +kernel
theorem dX5_laysOut_79 : decode cX5_laysOut 79 = .ok (.iload 4, 2) := by decide +kernel
theorem dX5_laysOut_81 : decode cX5_laysOut 81 = .ok (.iload 5, 2) := by decide +kernel
theorem dX5_laysOut_83 : decode cX5_laysOut 83 = .ok (.invokevirtual 193, 3) := by decide +kernel
theorem dX5_laysOut_86 : decode cX5_laysOut 86 = .ok (.istore 6, 2) := by decide +kernel
theorem dX5_laysOut_88 : decode cX5_laysOut 88 = .ok (.iload 6, 2) := by decide +kernel
theorem dX5_laysOut_90 : decode cX5_laysOut 90 = .ok (.ifCond .lt 25, 3) := by decide +kernel
theorem dX5_laysOut_93 : decode cX5_laysOut 93 = .ok (.aload_n 0, 1) := by decide +kernel
theorem dX5_laysOut_94 : decode cX5_laysOut 94 = .ok (.iload_n 3, 1) := by decide +kernel
theorem dX5_laysOut_95 : decode cX5_laysOut 95 = .ok (.bipush 20, 2) := by decide +kernel
theorem dX5_laysOut_97 : decode cX5_laysOut 97 = .ok (.iload_n 1, 1) := by decide +kernel
theorem dX5_laysOut_98 : decode cX5_laysOut 98 = .ok (.iconst 1, 1) := by decide +kernel
theorem dX5_laysOut_99 : decode cX5_laysOut 99 = .ok (.iadd, 1) := by decide +kernel
theorem dX5_laysOut_100 : decode cX5_laysOut 100 = .ok (.imul, 1) := by decide +kernel
theorem dX5_laysOut_101 : decode cX5_laysOut 101 = .ok (.iload 6, 2) := by decide +kernel
theorem dX5_laysOut_103 : decode cX5_laysOut 103 = .ok (.iadd, 1) := by decide +kernel
theorem dX5_laysOut_104 : decode cX5_laysOut 104 = .ok (.aload_n 0, 1) := by decide +kernel
theorem dX5_laysOut_105 : decode cX5_laysOut 105 = .ok (.iload 4, 2) := by decide +kernel
theorem dX5_laysOut_107 : decode cX5_laysOut 107 = .ok (.iload 5, 2) := by decide +kernel
theorem dX5_laysOut_109 : decode cX5_laysOut 109 = .ok (.invokevirtual 197, 3) := by decide +kernel
theorem dX5_laysOut_112 : decode cX5_laysOut 112 = .ok (.invokevirtual 200, 3) := by decide +kernel
theorem dX5_laysOut_115 : decode cX5_laysOut 115 = .ok (.iinc 5 1, 3) := by decide +kernel
theorem dX5_laysOut_118 : decode cX5_laysOut 118 = .ok (.goto (-56), 3) := by decide +kernel
theorem dX5_laysOut_121 : decode cX5_laysOut 121 = .ok (.iinc 4 1, 3) := by decide +kernel
theorem dX5_laysOut_124 : decode cX5_laysOut 124 = .ok (.goto (-79), 3) := by decide +kernel
theorem dX5_laysOut_127 : decode cX5_laysOut 127 = .ok (.iinc 2 1, 3) := by decide +kernel
theorem dX5_laysOut_130 : decode cX5_laysOut 130 = .ok (.goto (-117), 3) := by decide +kernel
theorem dX5_laysOut_133 : decode cX5_laysOut 133 = .ok (.iinc 1 (-1), 3) := by decide +kernel
theorem dX5_laysOut_136 : decode cX5_laysOut 136 = .ok (.goto (-129), 3) := by decide +kernel
theorem dX5_laysOut_139 : decode cX5_laysOut 139 = .ok (.return_, 1) := by decide +kernel
set_option maxRecDepth 20000 in
theorem ggX5_adds_X5_offers : GoodIn wsX5_adds wsX5_offers := goodIn_r _ [8, 1, 3, 9, 10, 11, 12, 13, 14, 15, 16, 17, 18, 19, 20, 21, 22, 23, 24, 25, 26, 27, 28, 29, 30, 31, 32, 33, 34, 35, 36, 37, 38] (by decide +kernel) (by decide +kernel)
set_option maxRecDepth 20000 in
theorem gX5_adds_X5_offers : GoodIn wsX5_adds (wsV RX5 204 RX5 yX5_offers wsX5_offers) := goodIn_app (goodIn_of _ (by decide +kernel)) ggX5_adds_X5_offers
theorem dX5_adds_0 : decode cX5_adds 0 = .ok (.aload_n 0, 1) := by decide +kernel
theorem dX5_adds_1 : decode cX5_adds 1 = .ok (.getfield 86, 3) := by decide +kernel
theorem dX5_adds_4 : decode cX5_adds 4 = .ok (.iload_n 2, 1) := by decide +kernel
theorem dX5_adds_5 : decode cX5_adds 5 = .ok (.iaload, 1) := by decide +kernel
theorem dX5_adds_6 : decode cX5_adds 6 = .ok (.ldc 192, 2) := by decide +kernel
theorem dX5_adds_8 : decode cX5_adds 8 = .ok (.if_icmp .ge 16, 3) := by decide +kernel
theorem dX5_adds_11 : decode cX5_adds 11 = .ok (.aload_n 0, 1) := by decide +kernel
theorem dX5_adds_12 : decode cX5_adds 12 = .ok (.iload_n 1, 1) := by decide +kernel
theorem dX5_adds_13 : decode cX5_adds 13 = .ok (.iload_n 3, 1) := by decide +kernel
theorem dX5_adds_14 : decode cX5_adds 14 = .ok (.aload_n 0, 1) := by decide +kernel
theorem dX5_adds_15 : decode cX5_adds 15 = .ok (.getfield 86, 3) := by decide +kernel
theorem dX5_adds_18 : decode cX5_adds 18 = .ok (.iload_n 2, 1) := by decide +kernel
theorem dX5_adds_19 : decode cX5_adds 19 = .ok (.iaload, 1) := by decide +kernel
theorem dX5_adds_20 : decode cX5_adds 20 = .ok (.iadd, 1) := by decide +kernel
theorem dX5_adds_21 : decode cX5_adds 21 = .ok (.invokevirtual 204, 3) := by decide +kernel
theorem dX5_adds_24 : decode cX5_adds 24 = .ok (.aload_n 0, 1) := by decide +kernel
theorem dX5_adds_25 : decode cX5_adds 25 = .ok (.getfield 89, 3) := by decide +kernel
theorem dX5_adds_28 : decode cX5_adds 28 = .ok (.iload_n 2, 1) := by decide +kernel
theorem dX5_adds_29 : decode cX5_adds 29 = .ok (.iaload, 1) := by decide +kernel
theorem dX5_adds_30 : decode cX5_adds 30 = .ok (.ldc 192, 2) := by decide +kernel
theorem dX5_adds_32 : decode cX5_adds 32 = .ok (.if_icmp .ge 16, 3) := by decide +kernel
theorem dX5_adds_35 : decode cX5_adds 35 = .ok (.aload_n 0, 1) := by decide +kernel
theorem dX5_adds_36 : decode cX5_adds 36 = .ok (.iload_n 1, 1) := by decide +kernel
theorem dX5_adds_37 : decode cX5_adds 37 = .ok (.iload_n 3, 1) := by decide +kernel
theorem dX5_adds_38 : decode cX5_adds 38 = .ok (.aload_n 0, 1) := by decide +kernel
theorem dX5_adds_39 : decode cX5_adds 39 = .ok (.getfield 89, 3) := by decide +kernel
theorem dX5_adds_42 : decode cX5_adds 42 = .ok (.iload_n 2, 1) := by decide +kernel
theorem dX5_adds_43 : decode cX5_adds 43 = .ok (.iaload, 1) := by decide +kernel
theorem dX5_adds_44 : decode cX5_adds 44 = .ok (.iadd, 1) := by decide +kernel
theorem dX5_adds_45 : decode cX5_adds 45 = .ok (.invokevirtual 204, 3) := by decide +kernel
theorem dX5_adds_48 : decode cX5_adds 48 = .ok (.return_, 1) := by decide +kernel
set_option maxRecDepth 20000 in
theorem ggX5_laysOutEnds_X5_endOf : GoodIn wsX5_laysOutEnds wsX5_endOf := goodIn_r _ [11, 12, 6, 42, 43, 44, 45, 46, 47, 48, 49, 50, 51, 52, 53, 54, 55, 56, 57, 58, 59, 60, 61, 62, 63, 64, 65, 66, 67, 68, 69, 70, 71] (by decide +kernel) (by decide +kernel)
set_option maxRecDepth 20000 in
theorem gX5_laysOutEnds_X5_endOf : GoodIn wsX5_laysOutEnds (wsV RX5 189 RX5 yX5_endOf wsX5_endOf) := goodIn_app (goodIn_of _ (by decide +kernel)) ggX5_laysOutEnds_X5_endOf
set_option maxRecDepth 20000 in
theorem ggX5_laysOutEnds_X5_offers : GoodIn wsX5_laysOutEnds wsX5_offers := goodIn_r _ [16, 2, 4, 42, 43, 44, 45, 46, 47, 48, 49, 50, 51, 52, 53, 54, 55, 56, 57, 58, 59, 60, 61, 62, 63, 64, 65, 66, 67, 68, 69, 70, 71] (by decide +kernel) (by decide +kernel)
set_option maxRecDepth 20000 in
theorem gX5_laysOutEnds_X5_offers : GoodIn wsX5_laysOutEnds (wsV RX5 204 RX5 yX5_offers wsX5_offers) := goodIn_app (goodIn_of _ (by decide +kernel)) ggX5_laysOutEnds_X5_offers
set_option maxRecDepth 20000 in
theorem ggX5_laysOutEnds_X5_laysOut : GoodIn wsX5_laysOutEnds wsX5_laysOut := goodIn_r _ [20, 1, 2, 3, 4, 5, 6, 21, 22, 23, 24, 10, 25, 26, 27, 28, 29, 30, 31, 32, 33, 7, 8, 9, 11, 12, 34, 35, 36, 37, 38, 39, 40, 41, 13, 14, 15, 16, 42, 43, 44, 45, 46, 47, 48, 49, 50, 51, 52, 53, 54, 55, 56, 57, 58, 59, 60, 61, 62, 63, 64, 65, 66, 67, 68, 69, 70, 71] (by decide +kernel) (by decide +kernel)
set_option maxRecDepth 20000 in
theorem gX5_laysOutEnds_X5_laysOut : GoodIn wsX5_laysOutEnds (wsV RX5 208 RX5 yX5_laysOut wsX5_laysOut) := goodIn_app (goodIn_of _ (by decide +kernel)) ggX5_laysOutEnds_X5_laysOut
theorem dX5_laysOutEnds_0 : decode cX5_laysOutEnds 0 = .ok (.iconst 0, 1) := by decide +kernel
theorem dX5_laysOutEnds_1 : decode cX5_laysOutEnds 1 = .ok (.istore_n 1, 1) := by decide +kernel
theorem dX5_laysOutEnds_2 : decode cX5_laysOutEnds 2 = .ok (.iload_n 1, 1) := by decide +kernel
theorem dX5_laysOutEnds_3 : decode cX5_laysOutEnds 3 = .ok (.bipush 20, 2) := by decide +kernel
theorem dX5_laysOutEnds_5 : decode cX5_laysOutEnds 5 = .ok (.if_icmp .ge 83, 3) := by decide +kernel
theorem dX5_laysOutEnds_8 : decode cX5_laysOutEnds 8 = .ok (.bipush 20, 2) := by decide +kernel
theorem dX5_laysOutEnds_10 : decode cX5_laysOutEnds 10 = .ok (.aload_n 0, 1) := by decide +kernel
theorem dX5_laysOutEnds_11 : decode cX5_laysOutEnds 11 = .ok (.getfield 186, 3) := by decide +kernel
theorem dX5_laysOutEnds_14 : decode cX5_laysOutEnds 14 = .ok (.imul, 1) := by decide +kernel
theorem dX5_laysOutEnds_15 : decode cX5_laysOutEnds 15 = .ok (.iload_n 1, 1) := by decide +kernel
theorem dX5_laysOutEnds_16 : decode cX5_laysOutEnds 16 = .ok (.iadd, 1) := by decide +kernel
theorem dX5_laysOutEnds_17 : decode cX5_laysOutEnds 17 = .ok (.istore_n 2, 1) := by decide +kernel
theorem dX5_laysOutEnds_18 : decode cX5_laysOutEnds 18 = .ok (.aload_n 0, 1) := by decide +kernel
theorem dX5_laysOutEnds_19 : decode cX5_laysOutEnds 19 = .ok (.getfield 86, 3) := by decide +kernel
theorem dX5_laysOutEnds_22 : decode cX5_laysOutEnds 22 = .ok (.iload_n 2, 1) := by decide +kernel
theorem dX5_laysOutEnds_23 : decode cX5_laysOutEnds 23 = .ok (.ldc 192, 2) := by decide +kernel
theorem dX5_laysOutEnds_25 : decode cX5_laysOutEnds 25 = .ok (.iastore, 1) := by decide +kernel
theorem dX5_laysOutEnds_26 : decode cX5_laysOutEnds 26 = .ok (.aload_n 0, 1) := by decide +kernel
theorem dX5_laysOutEnds_27 : decode cX5_laysOutEnds 27 = .ok (.getfield 89, 3) := by decide +kernel
theorem dX5_laysOutEnds_30 : decode cX5_laysOutEnds 30 = .ok (.iload_n 2, 1) := by decide +kernel
theorem dX5_laysOutEnds_31 : decode cX5_laysOutEnds 31 = .ok (.ldc 192, 2) := by decide +kernel
theorem dX5_laysOutEnds_33 : decode cX5_laysOutEnds 33 = .ok (.iastore, 1) := by decide +kernel
theorem dX5_laysOutEnds_34 : decode cX5_laysOutEnds 34 = .ok (.iconst 0, 1) := by decide +kernel
theorem dX5_laysOutEnds_35 : decode cX5_laysOutEnds 35 = .ok (.istore_n 3, 1) := by decide +kernel
theorem dX5_laysOutEnds_36 : decode cX5_laysOutEnds 36 = .ok (.iload_n 3, 1) := by decide +kernel
theorem dX5_laysOutEnds_37 : decode cX5_laysOutEnds 37 = .ok (.aload_n 0, 1) := by decide +kernel
theorem dX5_laysOutEnds_38 : decode cX5_laysOutEnds 38 = .ok (.getfield 67, 3) := by decide +kernel
theorem dX5_laysOutEnds_41 : decode cX5_laysOutEnds 41 = .ok (.aload_n 0, 1) := by decide +kernel
theorem dX5_laysOutEnds_42 : decode cX5_laysOutEnds 42 = .ok (.getfield 155, 3) := by decide +kernel
theorem dX5_laysOutEnds_45 : decode cX5_laysOutEnds 45 = .ok (.iaload, 1) := by decide +kernel
theorem dX5_laysOutEnds_46 : decode cX5_laysOutEnds 46 = .ok (.if_icmp .ge 36, 3) := by decide +kernel
theorem dX5_laysOutEnds_49 : decode cX5_laysOutEnds 49 = .ok (.iload_n 1, 1) := by decide +kernel
theorem dX5_laysOutEnds_50 : decode cX5_laysOutEnds 50 = .ok (.bipush 10, 2) := by decide +kernel
theorem dX5_laysOutEnds_52 : decode cX5_laysOutEnds 52 = .ok (.if_icmp .ge 30, 3) := by decide +kernel
theorem dX5_laysOutEnds_55 : decode cX5_laysOutEnds 55 = .ok (.aload_n 0, 1) := by decide +kernel
theorem dX5_laysOutEnds_56 : decode cX5_laysOutEnds 56 = .ok (.iload_n 3, 1) := by decide +kernel
theorem dX5_laysOutEnds_57 : decode cX5_laysOutEnds 57 = .ok (.iconst 0, 1) := by decide +kernel
theorem dX5_laysOutEnds_58 : decode cX5_laysOutEnds 58 = .ok (.invokevirtual 189, 3) := by decide +kernel
theorem dX5_laysOutEnds_61 : decode cX5_laysOutEnds 61 = .ok (.iload_n 1, 1) := by decide +kernel
theorem dX5_laysOutEnds_62 : decode cX5_laysOutEnds 62 = .ok (.if_icmp .ne 14, 3) := by decide +kernel
theorem dX5_laysOutEnds_65 : decode cX5_laysOutEnds 65 = .ok (.aload_n 0, 1) := by decide +kernel
theorem dX5_laysOutEnds_66 : decode cX5_laysOutEnds 66 = .ok (.iload_n 2, 1) := by decide +kernel
theorem dX5_laysOutEnds_67 : decode cX5_laysOutEnds 67 = .ok (.aload_n 0, 1) := by decide +kernel
theorem dX5_laysOutEnds_68 : decode cX5_laysOutEnds 68 = .ok (.iload_n 3, 1) := by decide +kernel
theorem dX5_laysOutEnds_69 : decode cX5_laysOutEnds 69 = .ok (.iconst 1, 1) := by decide +kernel
theorem dX5_laysOutEnds_70 : decode cX5_laysOutEnds 70 = .ok (.invokevirtual 189, 3) := by decide +kernel
theorem dX5_laysOutEnds_73 : decode cX5_laysOutEnds 73 = .ok (.invokevirtual 204, 3) := by decide +kernel
theorem dX5_laysOutEnds_76 : decode cX5_laysOutEnds 76 = .ok (.iinc 3 1, 3) := by decide +kernel
theorem dX5_laysOutEnds_79 : decode cX5_laysOutEnds 79 = .ok (.goto (-43), 3) := by decide +kernel
theorem dX5_laysOutEnds_82 : decode cX5_laysOutEnds 82 = .ok (.iinc 1 1, 3) := by decide +kernel
theorem dX5_laysOutEnds_85 : decode cX5_laysOutEnds 85 = .ok (.goto (-83), 3) := by decide +kernel
theorem dX5_laysOutEnds_88 : decode cX5_laysOutEnds 88 = .ok (.aload_n 0, 1) := by decide +kernel
theorem dX5_laysOutEnds_89 : decode cX5_laysOutEnds 89 = .ok (.invokevirtual 208, 3) := by decide +kernel
theorem dX5_laysOutEnds_92 : decode cX5_laysOutEnds 92 = .ok (.return_, 1) := by decide +kernel
set_option maxRecDepth 20000 in
theorem ggX5_goesFrom_X5_stepTo : GoodIn wsX5_goesFrom wsX5_stepTo := goodIn_r _ [14, 15, 16, 17, 18, 19, 20, 13, 21, 22, 6, 23, 24, 25, 26, 27, 32, 33, 34, 35, 36, 37, 38, 39, 40, 41, 42, 43, 44, 45, 46, 47, 48, 49, 50, 51, 52, 53, 54, 55, 56, 57, 58, 59, 60, 61] (by decide +kernel) (by decide +kernel)
set_option maxRecDepth 20000 in
theorem gX5_goesFrom_X5_stepTo : GoodIn wsX5_goesFrom (wsV RX5 193 RX5 yX5_stepTo wsX5_stepTo) := goodIn_app (goodIn_of _ (by decide +kernel)) ggX5_goesFrom_X5_stepTo
set_option maxRecDepth 20000 in
theorem ggX5_goesFrom_X5_costOf : GoodIn wsX5_goesFrom wsX5_costOf := goodIn_r _ [31, 18, 19, 20, 13, 21, 22, 6, 23, 24, 25, 26, 27, 32, 33, 34, 35, 36, 37, 38, 39, 40, 41, 42, 43, 44, 45, 46, 47, 48, 49, 50, 51, 52, 53, 54, 55, 56, 57, 58, 59, 60, 61] (by decide +kernel) (by decide +kernel)
set_option maxRecDepth 20000 in
theorem gX5_goesFrom_X5_costOf : GoodIn wsX5_goesFrom (wsV RX5 197 RX5 yX5_costOf wsX5_costOf) := goodIn_app (goodIn_of _ (by decide +kernel)) ggX5_goesFrom_X5_costOf
theorem dX5_goesFrom_0 : decode cX5_goesFrom 0 = .ok (.aload_n 0, 1) := by decide +kernel
theorem dX5_goesFrom_1 : decode cX5_goesFrom 1 = .ok (.getfield 86, 3) := by decide +kernel
theorem dX5_goesFrom_4 : decode cX5_goesFrom 4 = .ok (.iconst 0, 1) := by decide +kernel
theorem dX5_goesFrom_5 : decode cX5_goesFrom 5 = .ok (.iaload, 1) := by decide +kernel
theorem dX5_goesFrom_6 : decode cX5_goesFrom 6 = .ok (.ldc 192, 2) := by decide +kernel
theorem dX5_goesFrom_8 : decode cX5_goesFrom 8 = .ok (.if_icmp .lt 5, 3) := by decide +kernel
theorem dX5_goesFrom_11 : decode cX5_goesFrom 11 = .ok (.iconst 0, 1) := by decide +kernel
theorem dX5_goesFrom_12 : decode cX5_goesFrom 12 = .ok (.ireturn, 1) := by decide +kernel
theorem dX5_goesFrom_13 : decode cX5_goesFrom 13 = .ok (.iconst 0, 1) := by decide +kernel
theorem dX5_goesFrom_14 : decode cX5_goesFrom 14 = .ok (.istore_n 1, 1) := by decide +kernel
theorem dX5_goesFrom_15 : decode cX5_goesFrom 15 = .ok (.iconst 0, 1) := by decide +kernel
theorem dX5_goesFrom_16 : decode cX5_goesFrom 16 = .ok (.istore_n 2, 1) := by decide +kernel
theorem dX5_goesFrom_17 : decode cX5_goesFrom 17 = .ok (.iload_n 2, 1) := by decide +kernel
theorem dX5_goesFrom_18 : decode cX5_goesFrom 18 = .ok (.aload_n 0, 1) := by decide +kernel
theorem dX5_goesFrom_19 : decode cX5_goesFrom 19 = .ok (.getfield 186, 3) := by decide +kernel
theorem dX5_goesFrom_22 : decode cX5_goesFrom 22 = .ok (.if_icmp .ge 160, 3) := by decide +kernel
theorem dX5_goesFrom_25 : decode cX5_goesFrom 25 = .ok (.aload_n 0, 1) := by decide +kernel
theorem dX5_goesFrom_26 : decode cX5_goesFrom 26 = .ok (.getfield 95, 3) := by decide +kernel
theorem dX5_goesFrom_29 : decode cX5_goesFrom 29 = .ok (.iload_n 2, 1) := by decide +kernel
theorem dX5_goesFrom_30 : decode cX5_goesFrom 30 = .ok (.iconst (-1), 1) := by decide +kernel
theorem dX5_goesFrom_31 : decode cX5_goesFrom 31 = .ok (.iastore, 1) := by decide +kernel
theorem dX5_goesFrom_32 : decode cX5_goesFrom 32 = .ok (.iconst (-1), 1) := by decide +kernel
theorem dX5_goesFrom_33 : decode cX5_goesFrom 33 = .ok (.istore_n 3, 1) := by decide +kernel
theorem dX5_goesFrom_34 : decode cX5_goesFrom 34 = .ok (.iload_n 3, 1) := by decide +kernel
theorem dX5_goesFrom_35 : decode cX5_goesFrom 35 = .ok (.aload_n 0, 1) := by decide +kernel
theorem dX5_goesFrom_36 : decode cX5_goesFrom 36 = .ok (.getfield 67, 3) := by decide +kernel
theorem dX5_goesFrom_39 : decode cX5_goesFrom 39 = .ok (.aload_n 0, 1) := by decide +kernel
theorem dX5_goesFrom_40 : decode cX5_goesFrom 40 = .ok (.getfield 155, 3) := by decide +kernel
theorem dX5_goesFrom_43 : decode cX5_goesFrom 43 = .ok (.iaload, 1) := by decide +kernel
theorem dX5_goesFrom_44 : decode cX5_goesFrom 44 = .ok (.if_icmp .ge 125, 3) := by decide +kernel
theorem dX5_goesFrom_47 : decode cX5_goesFrom 47 = .ok (.aload_n 0, 1) := by decide +kernel
theorem dX5_goesFrom_48 : decode cX5_goesFrom 48 = .ok (.getfield 95, 3) := by decide +kernel
theorem dX5_goesFrom_51 : decode cX5_goesFrom 51 = .ok (.iload_n 2, 1) := by decide +kernel
theorem dX5_goesFrom_52 : decode cX5_goesFrom 52 = .ok (.iaload, 1) := by decide +kernel
theorem dX5_goesFrom_53 : decode cX5_goesFrom 53 = .ok (.ifCond .ge 116, 3) := by decide +kernel
theorem dX5_goesFrom_56 : decode cX5_goesFrom 56 = .ok (.iconst 0, 1) := by decide +kernel
theorem dX5_goesFrom_57 : decode cX5_goesFrom 57 = .ok (.istore 4, 2) := by decide +kernel
theorem dX5_goesFrom_59 : decode cX5_goesFrom 59 = .ok (.iload 4, 2) := by decide +kernel
theorem dX5_goesFrom_61 : decode cX5_goesFrom 61 = .ok (.aload_n 0, 1) := by decide +kernel
theorem dX5_goesFrom_62 : decode cX5_goesFrom 62 = .ok (.getfield 61, 3) := by decide +kernel
theorem dX5_goesFrom_65 : decode cX5_goesFrom 65 = .ok (.aload_n 0, 1) := by decide +kernel
theorem dX5_goesFrom_66 : decode cX5_goesFrom 66 = .ok (.getfield 155, 3) := by decide +kernel
theorem dX5_goesFrom_69 : decode cX5_goesFrom 69 = .ok (.iaload, 1) := by decide +kernel
theorem dX5_goesFrom_70 : decode cX5_goesFrom 70 = .ok (.if_icmp .ge 93, 3) := by decide +kernel
theorem dX5_goesFrom_73 : decode cX5_goesFrom 73 = .ok (.aload_n 0, 1) := by decide +kernel
theorem dX5_goesFrom_74 : decode cX5_goesFrom 74 = .ok (.getfield 95, 3) := by decide +kernel
theorem dX5_goesFrom_77 : decode cX5_goesFrom 77 = .ok (.iload_n 2, 1) := by decide +kernel
theorem dX5_goesFrom_78 : decode cX5_goesFrom 78 = .ok (.iaload, 1) := by decide +kernel
theorem dX5_goesFrom_79 : decode cX5_goesFrom 79 = .ok (.ifCond .ge 84, 3) := by decide +kernel
theorem dX5_goesFrom_82 : decode cX5_goesFrom 82 = .ok (.aload_n 0, 1) := by decide +kernel
theorem dX5_goesFrom_83 : decode cX5_goesFrom 83 = .ok (.iload_n 2, 1) := by decide +kernel
theorem dX5_goesFrom_84 : decode cX5_goesFrom 84 = .ok (.iload_n 1, 1) := by decide +kernel
theorem dX5_goesFrom_85 : decode cX5_goesFrom 85 = .ok (.iload_n 3, 1) := by decide +kernel
theorem dX5_goesFrom_86 : decode cX5_goesFrom 86 = .ok (.iload 4, 2) := by decide +kernel
theorem dX5_goesFrom_88 : decode cX5_goesFrom 88 = .ok (.invokevirtual 193, 3) := by decide +kernel
theorem dX5_goesFrom_91 : decode cX5_goesFrom 91 = .ok (.istore 5, 2) := by decide +kernel
theorem dX5_goesFrom_93 : decode cX5_goesFrom 93 = .ok (.iload 5, 2) := by decide +kernel
theorem dX5_goesFrom_95 : decode cX5_goesFrom 95 = .ok (.ifCond .lt 62, 3) := by decide +kernel
theorem dX5_goesFrom_98 : decode cX5_goesFrom 98 = .ok (.aload_n 0, 1) := by decide +kernel
theorem dX5_goesFrom_99 : decode cX5_goesFrom 99 = .ok (.iload_n 3, 1) := by decide +kernel
theorem dX5_goesFrom_100 : decode cX5_goesFrom 100 = .ok (.iload 4, 2) := by decide +kernel
theorem dX5_goesFrom_102 : decode cX5_goesFrom 102 = .ok (.invokevirtual 197, 3) := by decide +kernel
theorem dX5_goesFrom_105 : decode cX5_goesFrom 105 = .ok (.aload_n 0, 1) := by decide +kernel
theorem dX5_goesFrom_106 : decode cX5_goesFrom 106 = .ok (.getfield 86, 3) := by decide +kernel
theorem dX5_goesFrom_109 : decode cX5_goesFrom 109 = .ok (.bipush 20, 2) := by decide +kernel
theorem dX5_goesFrom_111 : decode cX5_goesFrom 111 = .ok (.iload_n 2, 1) := by decide +kernel
theorem dX5_goesFrom_112 : decode cX5_goesFrom 112 = .ok (.iconst 1, 1) := by decide +kernel
theorem dX5_goesFrom_113 : decode cX5_goesFrom 113 = .ok (.iadd, 1) := by decide +kernel
theorem dX5_goesFrom_114 : decode cX5_goesFrom 114 = .ok (.imul, 1) := by decide +kernel
theorem dX5_goesFrom_115 : decode cX5_goesFrom 115 = .ok (.iload 5, 2) := by decide +kernel
theorem dX5_goesFrom_117 : decode cX5_goesFrom 117 = .ok (.iadd, 1) := by decide +kernel
theorem dX5_goesFrom_118 : decode cX5_goesFrom 118 = .ok (.iaload, 1) := by decide +kernel
theorem dX5_goesFrom_119 : decode cX5_goesFrom 119 = .ok (.iadd, 1) := by decide +kernel
theorem dX5_goesFrom_120 : decode cX5_goesFrom 120 = .ok (.aload_n 0, 1) := by decide +kernel
theorem dX5_goesFrom_121 : decode cX5_goesFrom 121 = .ok (.getfield 86, 3) := by decide +kernel
theorem dX5_goesFrom_124 : decode cX5_goesFrom 124 = .ok (.bipush 20, 2) := by decide +kernel
theorem dX5_goesFrom_126 : decode cX5_goesFrom 126 = .ok (.iload_n 2, 1) := by decide +kernel
theorem dX5_goesFrom_127 : decode cX5_goesFrom 127 = .ok (.imul, 1) := by decide +kernel
theorem dX5_goesFrom_128 : decode cX5_goesFrom 128 = .ok (.iload_n 1, 1) := by decide +kernel
theorem dX5_goesFrom_129 : decode cX5_goesFrom 129 = .ok (.iadd, 1) := by decide +kernel
theorem dX5_goesFrom_130 : decode cX5_goesFrom 130 = .ok (.iaload, 1) := by decide +kernel
theorem dX5_goesFrom_131 : decode cX5_goesFrom 131 = .ok (.if_icmp .ne 26, 3) := by decide +kernel
theorem dX5_goesFrom_134 : decode cX5_goesFrom 134 = .ok (.aload_n 0, 1) := by decide +kernel
theorem dX5_goesFrom_135 : decode cX5_goesFrom 135 = .ok (.getfield 92, 3) := by decide +kernel
theorem dX5_goesFrom_138 : decode cX5_goesFrom 138 = .ok (.iload_n 2, 1) := by decide +kernel
theorem dX5_goesFrom_139 : decode cX5_goesFrom 139 = .ok (.iload_n 3, 1) := by decide +kernel
theorem dX5_goesFrom_140 : decode cX5_goesFrom 140 = .ok (.iastore, 1) := by decide +kernel
theorem dX5_goesFrom_141 : decode cX5_goesFrom 141 = .ok (.aload_n 0, 1) := by decide +kernel
theorem dX5_goesFrom_142 : decode cX5_goesFrom 142 = .ok (.getfield 95, 3) := by decide +kernel
theorem dX5_goesFrom_145 : decode cX5_goesFrom 145 = .ok (.iload_n 2, 1) := by decide +kernel
theorem dX5_goesFrom_146 : decode cX5_goesFrom 146 = .ok (.iload 4, 2) := by decide +kernel
theorem dX5_goesFrom_148 : decode cX5_goesFrom 148 = .ok (.iastore, 1) := by decide +kernel
theorem dX5_goesFrom_149 : decode cX5_goesFrom 149 = .ok (.aload_n 0, 1) := by decide +kernel
theorem dX5_goesFrom_150 : decode cX5_goesFrom 150 = .ok (.getfield 98, 3) := by decide +kernel
theorem dX5_goesFrom_153 : decode cX5_goesFrom 153 = .ok (.iload_n 2, 1) := by decide +kernel
theorem dX5_goesFrom_154 : decode cX5_goesFrom 154 = .ok (.iload 5, 2) := by decide +kernel
theorem dX5_goesFrom_156 : decode cX5_goesFrom 156 = .ok (.iastore, 1) := by decide +kernel
theorem dX5_goesFrom_157 : decode cX5_goesFrom 157 = .ok (.iinc 4 1, 3) := by decide +kernel
theorem dX5_goesFrom_160 : decode cX5_goesFrom 160 = .ok (.goto (-101), 3) := by decide +kernel
theorem dX5_goesFrom_163 : decode cX5_goesFrom 163 = .ok (.iinc 3 1, 3) := by decide +kernel
theorem dX5_goesFrom_166 : decode cX5_goesFrom 166 = .ok (.goto (-132), 3) := by decide +kernel
theorem dX5_goesFrom_169 : decode cX5_goesFrom 169 = .ok (.aload_n 0, 1) := by decide +kernel
theorem dX5_goesFrom_170 : decode cX5_goesFrom 170 = .ok (.getfield 98, 3) := by decide +kernel
theorem dX5_goesFrom_173 : decode cX5_goesFrom 173 = .ok (.iload_n 2, 1) := by decide +kernel
theorem dX5_goesFrom_174 : decode cX5_goesFrom 174 = .ok (.iaload, 1) := by decide +kernel
theorem dX5_goesFrom_175 : decode cX5_goesFrom 175 = .ok (.istore_n 1, 1) := by decide +kernel
theorem dX5_goesFrom_176 : decode cX5_goesFrom 176 = .ok (.iinc 2 1, 3) := by decide +kernel
theorem dX5_goesFrom_179 : decode cX5_goesFrom 179 = .ok (.goto (-162), 3) := by decide +kernel
theorem dX5_goesFrom_182 : decode cX5_goesFrom 182 = .ok (.iconst 1, 1) := by decide +kernel
theorem dX5_goesFrom_183 : decode cX5_goesFrom 183 = .ok (.ireturn, 1) := by decide +kernel
set_option maxRecDepth 20000 in
theorem ggX5_parts_X5_laysOutEnds : GoodIn wsX5_parts wsX5_laysOutEnds := goodIn_r _ [11, 1, 6, 12, 13, 3, 4, 14, 15, 16, 10, 17, 18, 19, 20, 21, 22, 23, 24, 25, 26, 27, 28, 29, 30, 31, 32, 33, 34, 35, 36, 37, 38, 39, 40, 41, 42, 43, 44, 45, 46, 47, 54, 55, 56, 57, 58, 59, 60, 61, 62, 63, 64, 65, 66, 67, 68, 69, 70, 71, 72, 73, 74, 75, 76, 77, 78, 79, 80, 81, 82, 83] (by decide +kernel) (by decide +kernel)
set_option maxRecDepth 20000 in
theorem gX5_parts_X5_laysOutEnds : GoodIn wsX5_parts (wsV RX5 211 RX5 yX5_laysOutEnds wsX5_laysOutEnds) := goodIn_app (goodIn_of _ (by decide +kernel)) ggX5_parts_X5_laysOutEnds
set_option maxRecDepth 20000 in
theorem ggX5_parts_X5_goesFrom : GoodIn wsX5_parts wsX5_goesFrom := goodIn_r _ [51, 6, 12, 1, 52, 3, 4, 27, 53, 5, 28, 29, 30, 10, 31, 32, 33, 34, 35, 36, 37, 38, 39, 14, 15, 16, 17, 18, 40, 41, 42, 43, 54, 55, 56, 57, 58, 59, 60, 61, 62, 63, 64, 65, 66, 67, 68, 69, 70, 71, 72, 73, 74, 75, 76, 77, 78, 79, 80, 81, 82, 83] (by decide +kernel) (by decide +kernel)
set_option maxRecDepth 20000 in
theorem gX5_parts_X5_goesFrom : GoodIn wsX5_parts (wsV RX5 214 RX5 yX5_goesFrom wsX5_goesFrom) := goodIn_app (goodIn_of _ (by decide +kernel)) ggX5_parts_X5_goesFrom
set_option maxRecDepth 20000 in
theorem ggX5_parts_X5_endOf : GoodIn wsX5_parts wsX5_endOf := goodIn_r _ [17, 18, 4, 54, 55, 56, 57, 58, 59, 60, 61, 62, 63, 64, 65, 66, 67, 68, 69, 70, 71, 72, 73, 74, 75, 76, 77, 78, 79, 80, 81, 82, 83] (by decide +kernel) (by decide +kernel)
set_option maxRecDepth 20000 in
theorem gX5_parts_X5_endOf : GoodIn wsX5_parts (wsV RX5 189 RX5 yX5_endOf wsX5_endOf) := goodIn_app (goodIn_of _ (by decide +kernel)) ggX5_parts_X5_endOf
theorem dX5_parts_0 : decode cX5_parts 0 = .ok (.aload_n 0, 1) := by decide +kernel
theorem dX5_parts_1 : decode cX5_parts 1 = .ok (.invokevirtual 211, 3) := by decide +kernel
theorem dX5_parts_4 : decode cX5_parts 4 = .ok (.aload_n 0, 1) := by decide +kernel
theorem dX5_parts_5 : decode cX5_parts 5 = .ok (.getfield 186, 3) := by decide +kernel
theorem dX5_parts_8 : decode cX5_parts 8 = .ok (.ifCond .le 14, 3) := by decide +kernel
theorem dX5_parts_11 : decode cX5_parts 11 = .ok (.aload_n 0, 1) := by decide +kernel
theorem dX5_parts_12 : decode cX5_parts 12 = .ok (.invokevirtual 214, 3) := by decide +kernel
theorem dX5_parts_15 : decode cX5_parts 15 = .ok (.ifCond .eq 7, 3) := by decide +kernel
theorem dX5_parts_18 : decode cX5_parts 18 = .ok (.iconst 1, 1) := by decide +kernel
theorem dX5_parts_19 : decode cX5_parts 19 = .ok (.goto 4, 3) := by decide +kernel
theorem dX5_parts_22 : decode cX5_parts 22 = .ok (.iconst 0, 1) := by decide +kernel
theorem dX5_parts_23 : decode cX5_parts 23 = .ok (.istore_n 1, 1) := by decide +kernel
theorem dX5_parts_24 : decode cX5_parts 24 = .ok (.aload_n 0, 1) := by decide +kernel
theorem dX5_parts_25 : decode cX5_parts 25 = .ok (.iconst (-1), 1) := by decide +kernel
theorem dX5_parts_26 : decode cX5_parts 26 = .ok (.putfield 218, 3) := by decide +kernel
theorem dX5_parts_29 : decode cX5_parts 29 = .ok (.iconst 0, 1) := by decide +kernel
theorem dX5_parts_30 : decode cX5_parts 30 = .ok (.istore_n 2, 1) := by decide +kernel
theorem dX5_parts_31 : decode cX5_parts 31 = .ok (.iload_n 2, 1) := by decide +kernel
theorem dX5_parts_32 : decode cX5_parts 32 = .ok (.aload_n 0, 1) := by decide +kernel
theorem dX5_parts_33 : decode cX5_parts 33 = .ok (.getfield 67, 3) := by decide +kernel
theorem dX5_parts_36 : decode cX5_parts 36 = .ok (.aload_n 0, 1) := by decide +kernel
theorem dX5_parts_37 : decode cX5_parts 37 = .ok (.getfield 155, 3) := by decide +kernel
theorem dX5_parts_40 : decode cX5_parts 40 = .ok (.iaload, 1) := by decide +kernel
theorem dX5_parts_41 : decode cX5_parts 41 = .ok (.if_icmp .ge 74, 3) := by decide +kernel
theorem dX5_parts_44 : decode cX5_parts 44 = .ok (.iload_n 1, 1) := by decide +kernel
theorem dX5_parts_45 : decode cX5_parts 45 = .ok (.ifCond .eq 70, 3) := by decide +kernel
theorem dX5_parts_48 : decode cX5_parts 48 = .ok (.aload_n 0, 1) := by decide +kernel
theorem dX5_parts_49 : decode cX5_parts 49 = .ok (.getfield 218, 3) := by decide +kernel
theorem dX5_parts_52 : decode cX5_parts 52 = .ok (.ifCond .ge 63, 3) := by decide +kernel
theorem dX5_parts_55 : decode cX5_parts 55 = .ok (.aload_n 0, 1) := by decide +kernel
theorem dX5_parts_56 : decode cX5_parts 56 = .ok (.getfield 98, 3) := by decide +kernel
theorem dX5_parts_59 : decode cX5_parts 59 = .ok (.aload_n 0, 1) := by decide +kernel
theorem dX5_parts_60 : decode cX5_parts 60 = .ok (.getfield 186, 3) := by decide +kernel
theorem dX5_parts_63 : decode cX5_parts 63 = .ok (.iconst 1, 1) := by decide +kernel
theorem dX5_parts_64 : decode cX5_parts 64 = .ok (.isub, 1) := by decide +kernel
theorem dX5_parts_65 : decode cX5_parts 65 = .ok (.iaload, 1) := by decide +kernel
theorem dX5_parts_66 : decode cX5_parts 66 = .ok (.istore_n 3, 1) := by decide +kernel
theorem dX5_parts_67 : decode cX5_parts 67 = .ok (.aload_n 0, 1) := by decide +kernel
theorem dX5_parts_68 : decode cX5_parts 68 = .ok (.aload_n 0, 1) := by decide +kernel
theorem dX5_parts_69 : decode cX5_parts 69 = .ok (.iload_n 2, 1) := by decide +kernel
theorem dX5_parts_70 : decode cX5_parts 70 = .ok (.iconst 0, 1) := by decide +kernel
theorem dX5_parts_71 : decode cX5_parts 71 = .ok (.invokevirtual 189, 3) := by decide +kernel
theorem dX5_parts_74 : decode cX5_parts 74 = .ok (.iload_n 3, 1) := by decide +kernel
theorem dX5_parts_75 : decode cX5_parts 75 = .ok (.if_icmp .ne 30, 3) := by decide +kernel
theorem dX5_parts_78 : decode cX5_parts 78 = .ok (.aload_n 0, 1) := by decide +kernel
theorem dX5_parts_79 : decode cX5_parts 79 = .ok (.iload_n 2, 1) := by decide +kernel
theorem dX5_parts_80 : decode cX5_parts 80 = .ok (.iconst 1, 1) := by decide +kernel
theorem dX5_parts_81 : decode cX5_parts 81 = .ok (.invokevirtual 189, 3) := by decide +kernel
theorem dX5_parts_84 : decode cX5_parts 84 = .ok (.aload_n 0, 1) := by decide +kernel
theorem dX5_parts_85 : decode cX5_parts 85 = .ok (.getfield 86, 3) := by decide +kernel
theorem dX5_parts_88 : decode cX5_parts 88 = .ok (.bipush 20, 2) := by decide +kernel
theorem dX5_parts_90 : decode cX5_parts 90 = .ok (.aload_n 0, 1) := by decide +kernel
theorem dX5_parts_91 : decode cX5_parts 91 = .ok (.getfield 186, 3) := by decide +kernel
theorem dX5_parts_94 : decode cX5_parts 94 = .ok (.imul, 1) := by decide +kernel
theorem dX5_parts_95 : decode cX5_parts 95 = .ok (.iload_n 3, 1) := by decide +kernel
theorem dX5_parts_96 : decode cX5_parts 96 = .ok (.iadd, 1) := by decide +kernel
theorem dX5_parts_97 : decode cX5_parts 97 = .ok (.iaload, 1) := by decide +kernel
theorem dX5_parts_98 : decode cX5_parts 98 = .ok (.if_icmp .ne 7, 3) := by decide +kernel
theorem dX5_parts_101 : decode cX5_parts 101 = .ok (.iload_n 2, 1) := by decide +kernel
theorem dX5_parts_102 : decode cX5_parts 102 = .ok (.goto 4, 3) := by decide +kernel
theorem dX5_parts_105 : decode cX5_parts 105 = .ok (.iconst (-1), 1) := by decide +kernel
theorem dX5_parts_106 : decode cX5_parts 106 = .ok (.putfield 218, 3) := by decide +kernel
theorem dX5_parts_109 : decode cX5_parts 109 = .ok (.iinc 2 1, 3) := by decide +kernel
theorem dX5_parts_112 : decode cX5_parts 112 = .ok (.goto (-81), 3) := by decide +kernel
theorem dX5_parts_115 : decode cX5_parts 115 = .ok (.iload_n 1, 1) := by decide +kernel
theorem dX5_parts_116 : decode cX5_parts 116 = .ok (.ireturn, 1) := by decide +kernel
set_option maxRecDepth 20000 in
theorem ggX5_cost_X5_parts : GoodIn wsX5_cost wsX5_parts := goodIn_r _ [7, 8, 9, 10, 11, 12, 2, 13, 14, 15, 6, 16, 17, 18, 19, 20, 21, 22, 23, 24, 25, 26, 27, 28, 29, 30, 31, 32, 33, 34, 35, 36, 37, 38, 39, 40, 41, 42, 43, 44, 45, 46, 47, 48, 49, 50, 51, 52, 53, 54, 55, 56, 57, 58, 59, 60, 61, 62, 63, 64, 65, 66, 67, 68, 69, 70, 71, 72, 73, 74, 75, 76, 77, 78, 79, 80, 81, 82, 83, 84, 85, 86, 87, 88] (by decide +kernel) (by decide +kernel)
set_option maxRecDepth 20000 in
theorem gX5_cost_X5_parts : GoodIn wsX5_cost (wsV RX5 221 RX5 yX5_parts wsX5_parts) := goodIn_app (goodIn_of _ (by decide +kernel)) ggX5_cost_X5_parts
theorem dX5_cost_0 : decode cX5_cost 0 = .ok (.aload_n 0, 1) := by decide +kernel
theorem dX5_cost_1 : decode cX5_cost 1 = .ok (.iconst 0, 1) := by decide +kernel
theorem dX5_cost_2 : decode cX5_cost 2 = .ok (.putfield 1, 3) := by decide +kernel
theorem dX5_cost_5 : decode cX5_cost 5 = .ok (.aload_n 0, 1) := by decide +kernel
theorem dX5_cost_6 : decode cX5_cost 6 = .ok (.invokevirtual 221, 3) := by decide +kernel
theorem dX5_cost_9 : decode cX5_cost 9 = .ok (.ifCond .eq 12, 3) := by decide +kernel
theorem dX5_cost_12 : decode cX5_cost 12 = .ok (.aload_n 0, 1) := by decide +kernel
theorem dX5_cost_13 : decode cX5_cost 13 = .ok (.getfield 86, 3) := by decide +kernel
theorem dX5_cost_16 : decode cX5_cost 16 = .ok (.iconst 0, 1) := by decide +kernel
theorem dX5_cost_17 : decode cX5_cost 17 = .ok (.iaload, 1) := by decide +kernel
theorem dX5_cost_18 : decode cX5_cost 18 = .ok (.goto 4, 3) := by decide +kernel
theorem dX5_cost_21 : decode cX5_cost 21 = .ok (.iconst (-1), 1) := by decide +kernel
theorem dX5_cost_22 : decode cX5_cost 22 = .ok (.ireturn, 1) := by decide +kernel
set_option maxRecDepth 20000 in
theorem ggX5_second_X5_parts : GoodIn wsX5_second wsX5_parts := goodIn_r _ [8, 9, 10, 11, 12, 13, 14, 15, 16, 17, 7, 18, 3, 2, 19, 20, 21, 22, 23, 24, 25, 26, 27, 28, 29, 30, 31, 32, 33, 34, 35, 36, 37, 38, 39, 40, 41, 42, 43, 44, 45, 46, 47, 48, 49, 50, 51, 52, 53, 54, 55, 56, 57, 58, 59, 60, 61, 62, 63, 64, 65, 66, 67, 68, 69, 70, 71, 72, 73, 74, 75, 76, 77, 78, 79, 80, 81, 82, 83, 84, 85, 86, 87, 88] (by decide +kernel) (by decide +kernel)
set_option maxRecDepth 20000 in
theorem gX5_second_X5_parts : GoodIn wsX5_second (wsV RX5 221 RX5 yX5_parts wsX5_parts) := goodIn_app (goodIn_of _ (by decide +kernel)) ggX5_second_X5_parts
theorem dX5_second_0 : decode cX5_second 0 = .ok (.aload_n 0, 1) := by decide +kernel
theorem dX5_second_1 : decode cX5_second 1 = .ok (.iconst 0, 1) := by decide +kernel
theorem dX5_second_2 : decode cX5_second 2 = .ok (.putfield 1, 3) := by decide +kernel
theorem dX5_second_5 : decode cX5_second 5 = .ok (.aload_n 0, 1) := by decide +kernel
theorem dX5_second_6 : decode cX5_second 6 = .ok (.invokevirtual 221, 3) := by decide +kernel
theorem dX5_second_9 : decode cX5_second 9 = .ok (.ifCond .eq 23, 3) := by decide +kernel
theorem dX5_second_12 : decode cX5_second 12 = .ok (.aload_n 0, 1) := by decide +kernel
theorem dX5_second_13 : decode cX5_second 13 = .ok (.getfield 89, 3) := by decide +kernel
theorem dX5_second_16 : decode cX5_second 16 = .ok (.iconst 0, 1) := by decide +kernel
theorem dX5_second_17 : decode cX5_second 17 = .ok (.iaload, 1) := by decide +kernel
theorem dX5_second_18 : decode cX5_second 18 = .ok (.ldc 192, 2) := by decide +kernel
theorem dX5_second_20 : decode cX5_second 20 = .ok (.if_icmp .ge 12, 3) := by decide +kernel
theorem dX5_second_23 : decode cX5_second 23 = .ok (.aload_n 0, 1) := by decide +kernel
theorem dX5_second_24 : decode cX5_second 24 = .ok (.getfield 89, 3) := by decide +kernel
theorem dX5_second_27 : decode cX5_second 27 = .ok (.iconst 0, 1) := by decide +kernel
theorem dX5_second_28 : decode cX5_second 28 = .ok (.iaload, 1) := by decide +kernel
theorem dX5_second_29 : decode cX5_second 29 = .ok (.goto 4, 3) := by decide +kernel
theorem dX5_second_32 : decode cX5_second 32 = .ok (.iconst (-1), 1) := by decide +kernel
theorem dX5_second_33 : decode cX5_second 33 = .ok (.ireturn, 1) := by decide +kernel
set_option maxRecDepth 20000 in
theorem ggX5_isRaised_X5_endOf : GoodIn wsX5_isRaised wsX5_endOf := goodIn_r _ [9, 10, 11, 17, 18, 19, 20, 21, 22, 23, 24, 25, 26, 27, 28, 29, 30, 31, 32, 33, 34, 35, 36, 37, 38, 39, 40, 41, 42, 43, 44, 45, 46] (by decide +kernel) (by decide +kernel)
set_option maxRecDepth 20000 in
theorem gX5_isRaised_X5_endOf : GoodIn wsX5_isRaised (wsV RX5 189 RX5 yX5_endOf wsX5_endOf) := goodIn_app (goodIn_of _ (by decide +kernel)) ggX5_isRaised_X5_endOf
set_option maxRecDepth 20000 in
theorem ggX5_isRaised_X5_goOf : GoodIn wsX5_isRaised wsX5_goOf := goodIn_r _ [15, 16, 11, 17, 18, 19, 20, 21, 22, 23, 24, 25, 26, 27, 28, 29, 30, 31, 32, 33, 34, 35, 36, 37, 38, 39, 40, 41, 42, 43, 44, 45, 46] (by decide +kernel) (by decide +kernel)
set_option maxRecDepth 20000 in
theorem gX5_isRaised_X5_goOf : GoodIn wsX5_isRaised (wsV RX5 180 RX5 yX5_goOf wsX5_goOf) := goodIn_app (goodIn_of _ (by decide +kernel)) ggX5_isRaised_X5_goOf
theorem dX5_isRaised_0 : decode cX5_isRaised 0 = .ok (.aload_n 0, 1) := by decide +kernel
theorem dX5_isRaised_1 : decode cX5_isRaised 1 = .ok (.getfield 92, 3) := by decide +kernel
theorem dX5_isRaised_4 : decode cX5_isRaised 4 = .ok (.iload_n 1, 1) := by decide +kernel
theorem dX5_isRaised_5 : decode cX5_isRaised 5 = .ok (.iaload, 1) := by decide +kernel
theorem dX5_isRaised_6 : decode cX5_isRaised 6 = .ok (.ifCond .lt 23, 3) := by decide +kernel
theorem dX5_isRaised_9 : decode cX5_isRaised 9 = .ok (.aload_n 0, 1) := by decide +kernel
theorem dX5_isRaised_10 : decode cX5_isRaised 10 = .ok (.aload_n 0, 1) := by decide +kernel
theorem dX5_isRaised_11 : decode cX5_isRaised 11 = .ok (.getfield 92, 3) := by decide +kernel
theorem dX5_isRaised_14 : decode cX5_isRaised 14 = .ok (.iload_n 1, 1) := by decide +kernel
theorem dX5_isRaised_15 : decode cX5_isRaised 15 = .ok (.iaload, 1) := by decide +kernel
theorem dX5_isRaised_16 : decode cX5_isRaised 16 = .ok (.iconst 2, 1) := by decide +kernel
theorem dX5_isRaised_17 : decode cX5_isRaised 17 = .ok (.invokevirtual 189, 3) := by decide +kernel
theorem dX5_isRaised_20 : decode cX5_isRaised 20 = .ok (.bipush 6, 2) := by decide +kernel
theorem dX5_isRaised_22 : decode cX5_isRaised 22 = .ok (.if_icmp .ge 7, 3) := by decide +kernel
theorem dX5_isRaised_25 : decode cX5_isRaised 25 = .ok (.iconst 1, 1) := by decide +kernel
theorem dX5_isRaised_26 : decode cX5_isRaised 26 = .ok (.goto 4, 3) := by decide +kernel
theorem dX5_isRaised_29 : decode cX5_isRaised 29 = .ok (.iconst 0, 1) := by decide +kernel
theorem dX5_isRaised_30 : decode cX5_isRaised 30 = .ok (.istore_n 2, 1) := by decide +kernel
theorem dX5_isRaised_31 : decode cX5_isRaised 31 = .ok (.iload_n 1, 1) := by decide +kernel
theorem dX5_isRaised_32 : decode cX5_isRaised 32 = .ok (.ifCond .eq 36, 3) := by decide +kernel
theorem dX5_isRaised_35 : decode cX5_isRaised 35 = .ok (.aload_n 0, 1) := by decide +kernel
theorem dX5_isRaised_36 : decode cX5_isRaised 36 = .ok (.getfield 76, 3) := by decide +kernel
theorem dX5_isRaised_39 : decode cX5_isRaised 39 = .ok (.aload_n 0, 1) := by decide +kernel
theorem dX5_isRaised_40 : decode cX5_isRaised 40 = .ok (.getfield 80, 3) := by decide +kernel
theorem dX5_isRaised_43 : decode cX5_isRaised 43 = .ok (.iload_n 1, 1) := by decide +kernel
theorem dX5_isRaised_44 : decode cX5_isRaised 44 = .ok (.iaload, 1) := by decide +kernel
theorem dX5_isRaised_45 : decode cX5_isRaised 45 = .ok (.baload, 1) := by decide +kernel
theorem dX5_isRaised_46 : decode cX5_isRaised 46 = .ok (.ifCond .ne 22, 3) := by decide +kernel
theorem dX5_isRaised_49 : decode cX5_isRaised 49 = .ok (.iload_n 2, 1) := by decide +kernel
theorem dX5_isRaised_50 : decode cX5_isRaised 50 = .ok (.ifCond .ne 18, 3) := by decide +kernel
theorem dX5_isRaised_53 : decode cX5_isRaised 53 = .ok (.aload_n 0, 1) := by decide +kernel
theorem dX5_isRaised_54 : decode cX5_isRaised 54 = .ok (.aload_n 0, 1) := by decide +kernel
theorem dX5_isRaised_55 : decode cX5_isRaised 55 = .ok (.getfield 95, 3) := by decide +kernel
theorem dX5_isRaised_58 : decode cX5_isRaised 58 = .ok (.iload_n 1, 1) := by decide +kernel
theorem dX5_isRaised_59 : decode cX5_isRaised 59 = .ok (.iaload, 1) := by decide +kernel
theorem dX5_isRaised_60 : decode cX5_isRaised 60 = .ok (.iconst 4, 1) := by decide +kernel
theorem dX5_isRaised_61 : decode cX5_isRaised 61 = .ok (.invokevirtual 180, 3) := by decide +kernel
theorem dX5_isRaised_64 : decode cX5_isRaised 64 = .ok (.iconst 2, 1) := by decide +kernel
theorem dX5_isRaised_65 : decode cX5_isRaised 65 = .ok (.if_icmp .ne 7, 3) := by decide +kernel
theorem dX5_isRaised_68 : decode cX5_isRaised 68 = .ok (.iconst 1, 1) := by decide +kernel
theorem dX5_isRaised_69 : decode cX5_isRaised 69 = .ok (.goto 4, 3) := by decide +kernel
theorem dX5_isRaised_72 : decode cX5_isRaised 72 = .ok (.iconst 0, 1) := by decide +kernel
theorem dX5_isRaised_73 : decode cX5_isRaised 73 = .ok (.ireturn, 1) := by decide +kernel
set_option maxRecDepth 20000 in
theorem ggX5_look_X5_parts : GoodIn wsX5_look wsX5_parts := goodIn_r _ [10, 1, 11, 12, 13, 5, 14, 15, 16, 17, 9, 18, 19, 20, 21, 22, 23, 24, 25, 26, 27, 28, 29, 30, 31, 32, 33, 34, 35, 36, 37, 38, 39, 40, 41, 42, 43, 44, 45, 46, 47, 48, 49, 50, 51, 52, 53, 54, 55, 56, 57, 58, 4, 3, 64, 65, 66, 67, 68, 69, 70, 71, 72, 73, 74, 75, 76, 77, 78, 79, 80, 81, 82, 83, 84, 85, 86, 87, 88, 89, 90, 91, 92, 93] (by decide +kernel) (by decide +kernel)
set_option maxRecDepth 20000 in
theorem gX5_look_X5_parts : GoodIn wsX5_look (wsV RX5 221 RX5 yX5_parts wsX5_parts) := goodIn_app (goodIn_of _ (by decide +kernel)) ggX5_look_X5_parts
set_option maxRecDepth 20000 in
theorem ggX5_look_X5_endOf : GoodIn wsX5_look wsX5_endOf := goodIn_r _ [24, 25, 13, 64, 65, 66, 67, 68, 69, 70, 71, 72, 73, 74, 75, 76, 77, 78, 79, 80, 81, 82, 83, 84, 85, 86, 87, 88, 89, 90, 91, 92, 93] (by decide +kernel) (by decide +kernel)
set_option maxRecDepth 20000 in
theorem gX5_look_X5_endOf : GoodIn wsX5_look (wsV RX5 189 RX5 yX5_endOf wsX5_endOf) := goodIn_app (goodIn_of _ (by decide +kernel)) ggX5_look_X5_endOf
set_option maxRecDepth 20000 in
theorem ggX5_look_X5_goOf : GoodIn wsX5_look wsX5_goOf := goodIn_r _ [45, 46, 13, 64, 65, 66, 67, 68, 69, 70, 71, 72, 73, 74, 75, 76, 77, 78, 79, 80, 81, 82, 83, 84, 85, 86, 87, 88, 89, 90, 91, 92, 93] (by decide +kernel) (by decide +kernel)
set_option maxRecDepth 20000 in
theorem gX5_look_X5_goOf : GoodIn wsX5_look (wsV RX5 180 RX5 yX5_goOf wsX5_goOf) := goodIn_app (goodIn_of _ (by decide +kernel)) ggX5_look_X5_goOf
set_option maxRecDepth 20000 in
theorem ggX5_look_X5_isRaised : GoodIn wsX5_look wsX5_isRaised := goodIn_r _ [62, 3, 63, 41, 4, 21, 22, 23, 9, 24, 25, 13, 42, 43, 44, 45, 46, 64, 65, 66, 67, 68, 69, 70, 71, 72, 73, 74, 75, 76, 77, 78, 79, 80, 81, 82, 83, 84, 85, 86, 87, 88, 89, 90, 91, 92, 93] (by decide +kernel) (by decide +kernel)
set_option maxRecDepth 20000 in
theorem gX5_look_X5_isRaised : GoodIn wsX5_look (wsV RX5 224 RX5 yX5_isRaised wsX5_isRaised) := goodIn_app (goodIn_of _ (by decide +kernel)) ggX5_look_X5_isRaised
theorem dX5_look_0 : decode cX5_look 0 = .ok (.aload_n 0, 1) := by decide +kernel
theorem dX5_look_1 : decode cX5_look 1 = .ok (.iload_n 1, 1) := by decide +kernel
theorem dX5_look_2 : decode cX5_look 2 = .ok (.ifCond .lt 32, 3) := by decide +kernel
theorem dX5_look_5 : decode cX5_look 5 = .ok (.iload_n 1, 1) := by decide +kernel
theorem dX5_look_6 : decode cX5_look 6 = .ok (.aload_n 0, 1) := by decide +kernel
theorem dX5_look_7 : decode cX5_look 7 = .ok (.getfield 186, 3) := by decide +kernel
theorem dX5_look_10 : decode cX5_look 10 = .ok (.if_icmp .ge 24, 3) := by decide +kernel
theorem dX5_look_13 : decode cX5_look 13 = .ok (.iload_n 2, 1) := by decide +kernel
theorem dX5_look_14 : decode cX5_look 14 = .ok (.ifCond .lt 20, 3) := by decide +kernel
theorem dX5_look_17 : decode cX5_look 17 = .ok (.iload_n 2, 1) := by decide +kernel
theorem dX5_look_18 : decode cX5_look 18 = .ok (.bipush 6, 2) := by decide +kernel
theorem dX5_look_20 : decode cX5_look 20 = .ok (.if_icmp .gt 14, 3) := by decide +kernel
theorem dX5_look_23 : decode cX5_look 23 = .ok (.aload_n 0, 1) := by decide +kernel
theorem dX5_look_24 : decode cX5_look 24 = .ok (.invokevirtual 221, 3) := by decide +kernel
theorem dX5_look_27 : decode cX5_look 27 = .ok (.ifCond .eq 7, 3) := by decide +kernel
theorem dX5_look_30 : decode cX5_look 30 = .ok (.iconst 0, 1) := by decide +kernel
theorem dX5_look_31 : decode cX5_look 31 = .ok (.goto 4, 3) := by decide +kernel
theorem dX5_look_34 : decode cX5_look 34 = .ok (.iconst 1, 1) := by decide +kernel
theorem dX5_look_35 : decode cX5_look 35 = .ok (.putfield 1, 3) := by decide +kernel
theorem dX5_look_38 : decode cX5_look 38 = .ok (.aload_n 0, 1) := by decide +kernel
theorem dX5_look_39 : decode cX5_look 39 = .ok (.getfield 1, 3) := by decide +kernel
theorem dX5_look_42 : decode cX5_look 42 = .ok (.ifCond .le 5, 3) := by decide +kernel
theorem dX5_look_45 : decode cX5_look 45 = .ok (.iconst 0, 1) := by decide +kernel
theorem dX5_look_46 : decode cX5_look 46 = .ok (.ireturn, 1) := by decide +kernel
theorem dX5_look_47 : decode cX5_look 47 = .ok (.iload_n 2, 1) := by decide +kernel
theorem dX5_look_48 : decode cX5_look 48 = .ok (.tableswitch 115 0 5 #[40, 47, 54, 79, 91, 105], 40) := by decide +kernel
theorem dX5_look_88 : decode cX5_look 88 = .ok (.aload_n 0, 1) := by decide +kernel
theorem dX5_look_89 : decode cX5_look 89 = .ok (.getfield 92, 3) := by decide +kernel
theorem dX5_look_92 : decode cX5_look 92 = .ok (.iload_n 1, 1) := by decide +kernel
theorem dX5_look_93 : decode cX5_look 93 = .ok (.iaload, 1) := by decide +kernel
theorem dX5_look_94 : decode cX5_look 94 = .ok (.ireturn, 1) := by decide +kernel
theorem dX5_look_95 : decode cX5_look 95 = .ok (.aload_n 0, 1) := by decide +kernel
theorem dX5_look_96 : decode cX5_look 96 = .ok (.getfield 95, 3) := by decide +kernel
theorem dX5_look_99 : decode cX5_look 99 = .ok (.iload_n 1, 1) := by decide +kernel
theorem dX5_look_100 : decode cX5_look 100 = .ok (.iaload, 1) := by decide +kernel
theorem dX5_look_101 : decode cX5_look 101 = .ok (.ireturn, 1) := by decide +kernel
theorem dX5_look_102 : decode cX5_look 102 = .ok (.aload_n 0, 1) := by decide +kernel
theorem dX5_look_103 : decode cX5_look 103 = .ok (.getfield 92, 3) := by decide +kernel
theorem dX5_look_106 : decode cX5_look 106 = .ok (.iload_n 1, 1) := by decide +kernel
theorem dX5_look_107 : decode cX5_look 107 = .ok (.iaload, 1) := by decide +kernel
theorem dX5_look_108 : decode cX5_look 108 = .ok (.ifCond .ge 7, 3) := by decide +kernel
theorem dX5_look_111 : decode cX5_look 111 = .ok (.iconst 0, 1) := by decide +kernel
theorem dX5_look_112 : decode cX5_look 112 = .ok (.goto 14, 3) := by decide +kernel
theorem dX5_look_115 : decode cX5_look 115 = .ok (.aload_n 0, 1) := by decide +kernel
theorem dX5_look_116 : decode cX5_look 116 = .ok (.aload_n 0, 1) := by decide +kernel
theorem dX5_look_117 : decode cX5_look 117 = .ok (.getfield 92, 3) := by decide +kernel
theorem dX5_look_120 : decode cX5_look 120 = .ok (.iload_n 1, 1) := by decide +kernel
theorem dX5_look_121 : decode cX5_look 121 = .ok (.iaload, 1) := by decide +kernel
theorem dX5_look_122 : decode cX5_look 122 = .ok (.iconst 2, 1) := by decide +kernel
theorem dX5_look_123 : decode cX5_look 123 = .ok (.invokevirtual 189, 3) := by decide +kernel
theorem dX5_look_126 : decode cX5_look 126 = .ok (.ireturn, 1) := by decide +kernel
theorem dX5_look_127 : decode cX5_look 127 = .ok (.aload_n 0, 1) := by decide +kernel
theorem dX5_look_128 : decode cX5_look 128 = .ok (.aload_n 0, 1) := by decide +kernel
theorem dX5_look_129 : decode cX5_look 129 = .ok (.getfield 95, 3) := by decide +kernel
theorem dX5_look_132 : decode cX5_look 132 = .ok (.iload_n 1, 1) := by decide +kernel
theorem dX5_look_133 : decode cX5_look 133 = .ok (.iaload, 1) := by decide +kernel
theorem dX5_look_134 : decode cX5_look 134 = .ok (.iconst 4, 1) := by decide +kernel
theorem dX5_look_135 : decode cX5_look 135 = .ok (.invokevirtual 180, 3) := by decide +kernel
theorem dX5_look_138 : decode cX5_look 138 = .ok (.ireturn, 1) := by decide +kernel
theorem dX5_look_139 : decode cX5_look 139 = .ok (.aload_n 0, 1) := by decide +kernel
theorem dX5_look_140 : decode cX5_look 140 = .ok (.iload_n 1, 1) := by decide +kernel
theorem dX5_look_141 : decode cX5_look 141 = .ok (.invokevirtual 224, 3) := by decide +kernel
theorem dX5_look_144 : decode cX5_look 144 = .ok (.ifCond .eq 7, 3) := by decide +kernel
theorem dX5_look_147 : decode cX5_look 147 = .ok (.iconst 1, 1) := by decide +kernel
theorem dX5_look_148 : decode cX5_look 148 = .ok (.goto 4, 3) := by decide +kernel
theorem dX5_look_151 : decode cX5_look 151 = .ok (.iconst 0, 1) := by decide +kernel
theorem dX5_look_152 : decode cX5_look 152 = .ok (.ireturn, 1) := by decide +kernel
theorem dX5_look_153 : decode cX5_look 153 = .ok (.aload_n 0, 1) := by decide +kernel
theorem dX5_look_154 : decode cX5_look 154 = .ok (.getfield 98, 3) := by decide +kernel
theorem dX5_look_157 : decode cX5_look 157 = .ok (.iload_n 1, 1) := by decide +kernel
theorem dX5_look_158 : decode cX5_look 158 = .ok (.iaload, 1) := by decide +kernel
theorem dX5_look_159 : decode cX5_look 159 = .ok (.bipush 10, 2) := by decide +kernel
theorem dX5_look_161 : decode cX5_look 161 = .ok (.irem, 1) := by decide +kernel
theorem dX5_look_162 : decode cX5_look 162 = .ok (.ireturn, 1) := by decide +kernel
theorem dX5_look_163 : decode cX5_look 163 = .ok (.aload_n 0, 1) := by decide +kernel
theorem dX5_look_164 : decode cX5_look 164 = .ok (.getfield 98, 3) := by decide +kernel
theorem dX5_look_167 : decode cX5_look 167 = .ok (.iload_n 1, 1) := by decide +kernel
theorem dX5_look_168 : decode cX5_look 168 = .ok (.iaload, 1) := by decide +kernel
theorem dX5_look_169 : decode cX5_look 169 = .ok (.bipush 10, 2) := by decide +kernel
theorem dX5_look_171 : decode cX5_look 171 = .ok (.idiv, 1) := by decide +kernel
theorem dX5_look_172 : decode cX5_look 172 = .ok (.ireturn, 1) := by decide +kernel
set_option maxRecDepth 20000 in
theorem ggX5_last_X5_parts : GoodIn wsX5_last wsX5_parts := goodIn_r _ [7, 8, 2, 9, 10, 11, 12, 13, 14, 15, 6, 16, 17, 18, 19, 20, 21, 22, 23, 24, 25, 26, 27, 28, 29, 30, 31, 32, 33, 34, 35, 36, 37, 38, 39, 40, 41, 42, 43, 44, 45, 46, 47, 48, 49, 50, 51, 52, 53, 54, 55, 56, 57, 58, 59, 60, 61, 62, 63, 64, 65, 66, 67, 68, 69, 70, 71, 72, 73, 74, 75, 76, 77, 78, 79, 80, 81, 82, 83, 84, 85, 86, 87, 88] (by decide +kernel) (by decide +kernel)
set_option maxRecDepth 20000 in
theorem gX5_last_X5_parts : GoodIn wsX5_last (wsV RX5 221 RX5 yX5_parts wsX5_parts) := goodIn_app (goodIn_of _ (by decide +kernel)) ggX5_last_X5_parts
theorem dX5_last_0 : decode cX5_last 0 = .ok (.aload_n 0, 1) := by decide +kernel
theorem dX5_last_1 : decode cX5_last 1 = .ok (.iconst 0, 1) := by decide +kernel
theorem dX5_last_2 : decode cX5_last 2 = .ok (.putfield 1, 3) := by decide +kernel
theorem dX5_last_5 : decode cX5_last 5 = .ok (.aload_n 0, 1) := by decide +kernel
theorem dX5_last_6 : decode cX5_last 6 = .ok (.invokevirtual 221, 3) := by decide +kernel
theorem dX5_last_9 : decode cX5_last 9 = .ok (.ifCond .eq 10, 3) := by decide +kernel
theorem dX5_last_12 : decode cX5_last 12 = .ok (.aload_n 0, 1) := by decide +kernel
theorem dX5_last_13 : decode cX5_last 13 = .ok (.getfield 218, 3) := by decide +kernel
theorem dX5_last_16 : decode cX5_last 16 = .ok (.goto 4, 3) := by decide +kernel
theorem dX5_last_19 : decode cX5_last 19 = .ok (.iconst (-1), 1) := by decide +kernel
theorem dX5_last_20 : decode cX5_last 20 = .ok (.ireturn, 1) := by decide +kernel
set_option maxRecDepth 20000 in
theorem ggX5_sentences_X5_parts : GoodIn wsX5_sentences wsX5_parts := goodIn_r _ [8, 2, 9, 10, 11, 12, 13, 14, 15, 16, 7, 17, 18, 19, 20, 21, 22, 23, 24, 25, 26, 27, 28, 29, 30, 31, 32, 33, 34, 35, 36, 37, 38, 39, 40, 41, 42, 43, 44, 45, 46, 47, 48, 49, 50, 51, 52, 53, 54, 55, 56, 57, 58, 3, 59, 60, 61, 62, 63, 64, 65, 66, 67, 68, 69, 70, 71, 72, 73, 74, 75, 76, 77, 78, 79, 80, 81, 82, 83, 84, 85, 86, 87, 88] (by decide +kernel) (by decide +kernel)
set_option maxRecDepth 20000 in
theorem gX5_sentences_X5_parts : GoodIn wsX5_sentences (wsV RX5 221 RX5 yX5_parts wsX5_parts) := goodIn_app (goodIn_of _ (by decide +kernel)) ggX5_sentences_X5_parts
theorem dX5_sentences_0 : decode cX5_sentences 0 = .ok (.aload_n 0, 1) := by decide +kernel
theorem dX5_sentences_1 : decode cX5_sentences 1 = .ok (.iconst 0, 1) := by decide +kernel
theorem dX5_sentences_2 : decode cX5_sentences 2 = .ok (.putfield 1, 3) := by decide +kernel
theorem dX5_sentences_5 : decode cX5_sentences 5 = .ok (.aload_n 0, 1) := by decide +kernel
theorem dX5_sentences_6 : decode cX5_sentences 6 = .ok (.invokevirtual 221, 3) := by decide +kernel
theorem dX5_sentences_9 : decode cX5_sentences 9 = .ok (.ifCond .ne 5, 3) := by decide +kernel
theorem dX5_sentences_12 : decode cX5_sentences 12 = .ok (.iconst (-1), 1) := by decide +kernel
theorem dX5_sentences_13 : decode cX5_sentences 13 = .ok (.ireturn, 1) := by decide +kernel
theorem dX5_sentences_14 : decode cX5_sentences 14 = .ok (.iconst 1, 1) := by decide +kernel
theorem dX5_sentences_15 : decode cX5_sentences 15 = .ok (.istore_n 1, 1) := by decide +kernel
theorem dX5_sentences_16 : decode cX5_sentences 16 = .ok (.iconst 0, 1) := by decide +kernel
theorem dX5_sentences_17 : decode cX5_sentences 17 = .ok (.istore_n 2, 1) := by decide +kernel
theorem dX5_sentences_18 : decode cX5_sentences 18 = .ok (.iload_n 2, 1) := by decide +kernel
theorem dX5_sentences_19 : decode cX5_sentences 19 = .ok (.aload_n 0, 1) := by decide +kernel
theorem dX5_sentences_20 : decode cX5_sentences 20 = .ok (.getfield 186, 3) := by decide +kernel
theorem dX5_sentences_23 : decode cX5_sentences 23 = .ok (.if_icmp .ge 26, 3) := by decide +kernel
theorem dX5_sentences_26 : decode cX5_sentences 26 = .ok (.iload_n 1, 1) := by decide +kernel
theorem dX5_sentences_27 : decode cX5_sentences 27 = .ok (.aload_n 0, 1) := by decide +kernel
theorem dX5_sentences_28 : decode cX5_sentences 28 = .ok (.getfield 92, 3) := by decide +kernel
theorem dX5_sentences_31 : decode cX5_sentences 31 = .ok (.iload_n 2, 1) := by decide +kernel
theorem dX5_sentences_32 : decode cX5_sentences 32 = .ok (.iaload, 1) := by decide +kernel
theorem dX5_sentences_33 : decode cX5_sentences 33 = .ok (.ifCond .lt 7, 3) := by decide +kernel
theorem dX5_sentences_36 : decode cX5_sentences 36 = .ok (.iconst 1, 1) := by decide +kernel
theorem dX5_sentences_37 : decode cX5_sentences 37 = .ok (.goto 4, 3) := by decide +kernel
theorem dX5_sentences_40 : decode cX5_sentences 40 = .ok (.iconst 0, 1) := by decide +kernel
theorem dX5_sentences_41 : decode cX5_sentences 41 = .ok (.iadd, 1) := by decide +kernel
theorem dX5_sentences_42 : decode cX5_sentences 42 = .ok (.istore_n 1, 1) := by decide +kernel
theorem dX5_sentences_43 : decode cX5_sentences 43 = .ok (.iinc 2 1, 3) := by decide +kernel
theorem dX5_sentences_46 : decode cX5_sentences 46 = .ok (.goto (-28), 3) := by decide +kernel
theorem dX5_sentences_49 : decode cX5_sentences 49 = .ok (.iload_n 1, 1) := by decide +kernel
theorem dX5_sentences_50 : decode cX5_sentences 50 = .ok (.ireturn, 1) := by decide +kernel
set_option maxRecDepth 20000 in
theorem ggX5_findOut_X5_endOf : GoodIn wsX5_findOut wsX5_endOf := goodIn_r _ [9, 10, 3, 20, 21, 22, 23, 24, 25, 26, 27, 28, 29, 30, 31, 32, 33, 34, 35, 36, 37, 38, 39, 40, 41, 42, 43, 44, 45, 46, 47, 48, 49] (by decide +kernel) (by decide +kernel)
set_option maxRecDepth 20000 in
theorem gX5_findOut_X5_endOf : GoodIn wsX5_findOut (wsV RX5 189 RX5 yX5_endOf wsX5_endOf) := goodIn_app (goodIn_of _ (by decide +kernel)) ggX5_findOut_X5_endOf
set_option maxRecDepth 20000 in
theorem ggX5_findOut_X5_leadsOut : GoodIn wsX5_findOut wsX5_leadsOut := goodIn_r _ [14, 1, 15, 16, 17, 8, 18, 19, 3, 20, 21, 22, 23, 24, 25, 26, 27, 28, 29, 30, 31, 32, 33, 34, 35, 36, 37, 38, 39, 40, 41, 42, 43, 44, 45, 46, 47, 48, 49] (by decide +kernel) (by decide +kernel)
set_option maxRecDepth 20000 in
theorem gX5_findOut_X5_leadsOut : GoodIn wsX5_findOut (wsV RX5 227 RX5 yX5_leadsOut wsX5_leadsOut) := goodIn_app (goodIn_of _ (by decide +kernel)) ggX5_findOut_X5_leadsOut
theorem dX5_findOut_0 : decode cX5_findOut 0 = .ok (.iconst 0, 1) := by decide +kernel
theorem dX5_findOut_1 : decode cX5_findOut 1 = .ok (.istore_n 1, 1) := by decide +kernel
theorem dX5_findOut_2 : decode cX5_findOut 2 = .ok (.iload_n 1, 1) := by decide +kernel
theorem dX5_findOut_3 : decode cX5_findOut 3 = .ok (.bipush 20, 2) := by decide +kernel
theorem dX5_findOut_5 : decode cX5_findOut 5 = .ok (.if_icmp .ge 73, 3) := by decide +kernel
theorem dX5_findOut_8 : decode cX5_findOut 8 = .ok (.aload_n 0, 1) := by decide +kernel
theorem dX5_findOut_9 : decode cX5_findOut 9 = .ok (.getfield 101, 3) := by decide +kernel
theorem dX5_findOut_12 : decode cX5_findOut 12 = .ok (.iload_n 1, 1) := by decide +kernel
theorem dX5_findOut_13 : decode cX5_findOut 13 = .ok (.iconst 0, 1) := by decide +kernel
theorem dX5_findOut_14 : decode cX5_findOut 14 = .ok (.bastore, 1) := by decide +kernel
theorem dX5_findOut_15 : decode cX5_findOut 15 = .ok (.iconst 0, 1) := by decide +kernel
theorem dX5_findOut_16 : decode cX5_findOut 16 = .ok (.istore_n 2, 1) := by decide +kernel
theorem dX5_findOut_17 : decode cX5_findOut 17 = .ok (.iload_n 2, 1) := by decide +kernel
theorem dX5_findOut_18 : decode cX5_findOut 18 = .ok (.aload_n 0, 1) := by decide +kernel
theorem dX5_findOut_19 : decode cX5_findOut 19 = .ok (.getfield 67, 3) := by decide +kernel
theorem dX5_findOut_22 : decode cX5_findOut 22 = .ok (.aload_n 0, 1) := by decide +kernel
theorem dX5_findOut_23 : decode cX5_findOut 23 = .ok (.getfield 155, 3) := by decide +kernel
theorem dX5_findOut_26 : decode cX5_findOut 26 = .ok (.iaload, 1) := by decide +kernel
theorem dX5_findOut_27 : decode cX5_findOut 27 = .ok (.if_icmp .ge 45, 3) := by decide +kernel
theorem dX5_findOut_30 : decode cX5_findOut 30 = .ok (.iload_n 1, 1) := by decide +kernel
theorem dX5_findOut_31 : decode cX5_findOut 31 = .ok (.bipush 10, 2) := by decide +kernel
theorem dX5_findOut_33 : decode cX5_findOut 33 = .ok (.if_icmp .ge 39, 3) := by decide +kernel
theorem dX5_findOut_36 : decode cX5_findOut 36 = .ok (.aload_n 0, 1) := by decide +kernel
theorem dX5_findOut_37 : decode cX5_findOut 37 = .ok (.getfield 101, 3) := by decide +kernel
theorem dX5_findOut_40 : decode cX5_findOut 40 = .ok (.iload_n 1, 1) := by decide +kernel
theorem dX5_findOut_41 : decode cX5_findOut 41 = .ok (.aload_n 0, 1) := by decide +kernel
theorem dX5_findOut_42 : decode cX5_findOut 42 = .ok (.getfield 101, 3) := by decide +kernel
theorem dX5_findOut_45 : decode cX5_findOut 45 = .ok (.iload_n 1, 1) := by decide +kernel
theorem dX5_findOut_46 : decode cX5_findOut 46 = .ok (.baload, 1) := by decide +kernel
theorem dX5_findOut_47 : decode cX5_findOut 47 = .ok (.ifCond .ne 13, 3) := by decide +kernel
theorem dX5_findOut_50 : decode cX5_findOut 50 = .ok (.aload_n 0, 1) := by decide +kernel
theorem dX5_findOut_51 : decode cX5_findOut 51 = .ok (.iload_n 2, 1) := by decide +kernel
theorem dX5_findOut_52 : decode cX5_findOut 52 = .ok (.iconst 0, 1) := by decide +kernel
theorem dX5_findOut_53 : decode cX5_findOut 53 = .ok (.invokevirtual 189, 3) := by decide +kernel
theorem dX5_findOut_56 : decode cX5_findOut 56 = .ok (.iload_n 1, 1) := by decide +kernel
theorem dX5_findOut_57 : decode cX5_findOut 57 = .ok (.if_icmp .ne 7, 3) := by decide +kernel
theorem dX5_findOut_60 : decode cX5_findOut 60 = .ok (.iconst 1, 1) := by decide +kernel
theorem dX5_findOut_61 : decode cX5_findOut 61 = .ok (.goto 4, 3) := by decide +kernel
theorem dX5_findOut_64 : decode cX5_findOut 64 = .ok (.iconst 0, 1) := by decide +kernel
theorem dX5_findOut_65 : decode cX5_findOut 65 = .ok (.bastore, 1) := by decide +kernel
theorem dX5_findOut_66 : decode cX5_findOut 66 = .ok (.iinc 2 1, 3) := by decide +kernel
theorem dX5_findOut_69 : decode cX5_findOut 69 = .ok (.goto (-52), 3) := by decide +kernel
theorem dX5_findOut_72 : decode cX5_findOut 72 = .ok (.iinc 1 1, 3) := by decide +kernel
theorem dX5_findOut_75 : decode cX5_findOut 75 = .ok (.goto (-73), 3) := by decide +kernel
theorem dX5_findOut_78 : decode cX5_findOut 78 = .ok (.iconst 1, 1) := by decide +kernel
theorem dX5_findOut_79 : decode cX5_findOut 79 = .ok (.istore_n 1, 1) := by decide +kernel
theorem dX5_findOut_80 : decode cX5_findOut 80 = .ok (.iload_n 1, 1) := by decide +kernel
theorem dX5_findOut_81 : decode cX5_findOut 81 = .ok (.ifCond .eq 114, 3) := by decide +kernel
theorem dX5_findOut_84 : decode cX5_findOut 84 = .ok (.iconst 0, 1) := by decide +kernel
theorem dX5_findOut_85 : decode cX5_findOut 85 = .ok (.istore_n 1, 1) := by decide +kernel
theorem dX5_findOut_86 : decode cX5_findOut 86 = .ok (.iconst 0, 1) := by decide +kernel
theorem dX5_findOut_87 : decode cX5_findOut 87 = .ok (.istore_n 2, 1) := by decide +kernel
theorem dX5_findOut_88 : decode cX5_findOut 88 = .ok (.iload_n 2, 1) := by decide +kernel
theorem dX5_findOut_89 : decode cX5_findOut 89 = .ok (.bipush 20, 2) := by decide +kernel
theorem dX5_findOut_91 : decode cX5_findOut 91 = .ok (.if_icmp .ge 101, 3) := by decide +kernel
theorem dX5_findOut_94 : decode cX5_findOut 94 = .ok (.iconst 0, 1) := by decide +kernel
theorem dX5_findOut_95 : decode cX5_findOut 95 = .ok (.istore_n 3, 1) := by decide +kernel
theorem dX5_findOut_96 : decode cX5_findOut 96 = .ok (.iconst 0, 1) := by decide +kernel
theorem dX5_findOut_97 : decode cX5_findOut 97 = .ok (.istore 4, 2) := by decide +kernel
theorem dX5_findOut_99 : decode cX5_findOut 99 = .ok (.iload 4, 2) := by decide +kernel
theorem dX5_findOut_101 : decode cX5_findOut 101 = .ok (.aload_n 0, 1) := by decide +kernel
theorem dX5_findOut_102 : decode cX5_findOut 102 = .ok (.getfield 61, 3) := by decide +kernel
theorem dX5_findOut_105 : decode cX5_findOut 105 = .ok (.aload_n 0, 1) := by decide +kernel
theorem dX5_findOut_106 : decode cX5_findOut 106 = .ok (.getfield 155, 3) := by decide +kernel
theorem dX5_findOut_109 : decode cX5_findOut 109 = .ok (.iaload, 1) := by decide +kernel
theorem dX5_findOut_110 : decode cX5_findOut 110 = .ok (.if_icmp .ge 38, 3) := by decide +kernel
theorem dX5_findOut_113 : decode cX5_findOut 113 = .ok (.aload_n 0, 1) := by decide +kernel
theorem dX5_findOut_114 : decode cX5_findOut 114 = .ok (.getfield 101, 3) := by decide +kernel
theorem dX5_findOut_117 : decode cX5_findOut 117 = .ok (.iload_n 2, 1) := by decide +kernel
theorem dX5_findOut_118 : decode cX5_findOut 118 = .ok (.baload, 1) := by decide +kernel
theorem dX5_findOut_119 : decode cX5_findOut 119 = .ok (.ifCond .ne 29, 3) := by decide +kernel
theorem dX5_findOut_122 : decode cX5_findOut 122 = .ok (.iload_n 3, 1) := by decide +kernel
theorem dX5_findOut_123 : decode cX5_findOut 123 = .ok (.ifCond .ne 13, 3) := by decide +kernel
theorem dX5_findOut_126 : decode cX5_findOut 126 = .ok (.aload_n 0, 1) := by decide +kernel
theorem dX5_findOut_127 : decode cX5_findOut 127 = .ok (.iload_n 2, 1) := by decide +kernel
theorem dX5_findOut_128 : decode cX5_findOut 128 = .ok (.iload 4, 2) := by decide +kernel
theorem dX5_findOut_130 : decode cX5_findOut 130 = .ok (.invokevirtual 227, 3) := by decide +kernel
theorem dX5_findOut_133 : decode cX5_findOut 133 = .ok (.ifCond .eq 7, 3) := by decide +kernel
theorem dX5_findOut_136 : decode cX5_findOut 136 = .ok (.iconst 1, 1) := by decide +kernel
theorem dX5_findOut_137 : decode cX5_findOut 137 = .ok (.goto 4, 3) := by decide +kernel
theorem dX5_findOut_140 : decode cX5_findOut 140 = .ok (.iconst 0, 1) := by decide +kernel
theorem dX5_findOut_141 : decode cX5_findOut 141 = .ok (.istore_n 3, 1) := by decide +kernel
theorem dX5_findOut_142 : decode cX5_findOut 142 = .ok (.iinc 4 1, 3) := by decide +kernel
theorem dX5_findOut_145 : decode cX5_findOut 145 = .ok (.goto (-46), 3) := by decide +kernel
theorem dX5_findOut_148 : decode cX5_findOut 148 = .ok (.aload_n 0, 1) := by decide +kernel
theorem dX5_findOut_149 : decode cX5_findOut 149 = .ok (.getfield 101, 3) := by decide +kernel
theorem dX5_findOut_152 : decode cX5_findOut 152 = .ok (.iload_n 2, 1) := by decide +kernel
theorem dX5_findOut_153 : decode cX5_findOut 153 = .ok (.aload_n 0, 1) := by decide +kernel
theorem dX5_findOut_154 : decode cX5_findOut 154 = .ok (.getfield 101, 3) := by decide +kernel
theorem dX5_findOut_157 : decode cX5_findOut 157 = .ok (.iload_n 2, 1) := by decide +kernel
theorem dX5_findOut_158 : decode cX5_findOut 158 = .ok (.baload, 1) := by decide +kernel
theorem dX5_findOut_159 : decode cX5_findOut 159 = .ok (.ifCond .ne 7, 3) := by decide +kernel
theorem dX5_findOut_162 : decode cX5_findOut 162 = .ok (.iload_n 3, 1) := by decide +kernel
theorem dX5_findOut_163 : decode cX5_findOut 163 = .ok (.ifCond .eq 7, 3) := by decide +kernel
theorem dX5_findOut_166 : decode cX5_findOut 166 = .ok (.iconst 1, 1) := by decide +kernel
theorem dX5_findOut_167 : decode cX5_findOut 167 = .ok (.goto 4, 3) := by decide +kernel
theorem dX5_findOut_170 : decode cX5_findOut 170 = .ok (.iconst 0, 1) := by decide +kernel
theorem dX5_findOut_171 : decode cX5_findOut 171 = .ok (.bastore, 1) := by decide +kernel
theorem dX5_findOut_172 : decode cX5_findOut 172 = .ok (.iload_n 1, 1) := by decide +kernel
theorem dX5_findOut_173 : decode cX5_findOut 173 = .ok (.ifCond .ne 7, 3) := by decide +kernel
theorem dX5_findOut_176 : decode cX5_findOut 176 = .ok (.iload_n 3, 1) := by decide +kernel
theorem dX5_findOut_177 : decode cX5_findOut 177 = .ok (.ifCond .eq 7, 3) := by decide +kernel
theorem dX5_findOut_180 : decode cX5_findOut 180 = .ok (.iconst 1, 1) := by decide +kernel
theorem dX5_findOut_181 : decode cX5_findOut 181 = .ok (.goto 4, 3) := by decide +kernel
theorem dX5_findOut_184 : decode cX5_findOut 184 = .ok (.iconst 0, 1) := by decide +kernel
theorem dX5_findOut_185 : decode cX5_findOut 185 = .ok (.istore_n 1, 1) := by decide +kernel
theorem dX5_findOut_186 : decode cX5_findOut 186 = .ok (.iinc 2 1, 3) := by decide +kernel
theorem dX5_findOut_189 : decode cX5_findOut 189 = .ok (.goto (-101), 3) := by decide +kernel
theorem dX5_findOut_192 : decode cX5_findOut 192 = .ok (.goto (-112), 3) := by decide +kernel
theorem dX5_findOut_195 : decode cX5_findOut 195 = .ok (.return_, 1) := by decide +kernel
set_option maxRecDepth 20000 in
theorem ggX5_leadsOut_X5_goOf : GoodIn wsX5_leadsOut wsX5_goOf := goodIn_r _ [6, 7, 8, 9, 10, 11, 12, 13, 14, 15, 16, 17, 18, 19, 20, 21, 22, 23, 24, 25, 26, 27, 28, 29, 30, 31, 32, 33, 34, 35, 36, 37, 38] (by decide +kernel) (by decide +kernel)
set_option maxRecDepth 20000 in
theorem gX5_leadsOut_X5_goOf : GoodIn wsX5_leadsOut (wsV RX5 180 RX5 yX5_goOf wsX5_goOf) := goodIn_app (goodIn_of _ (by decide +kernel)) ggX5_leadsOut_X5_goOf
theorem dX5_leadsOut_0 : decode cX5_leadsOut 0 = .ok (.aload_n 0, 1) := by decide +kernel
theorem dX5_leadsOut_1 : decode cX5_leadsOut 1 = .ok (.iload_n 2, 1) := by decide +kernel
theorem dX5_leadsOut_2 : decode cX5_leadsOut 2 = .ok (.iconst 4, 1) := by decide +kernel
theorem dX5_leadsOut_3 : decode cX5_leadsOut 3 = .ok (.invokevirtual 180, 3) := by decide +kernel
theorem dX5_leadsOut_6 : decode cX5_leadsOut 6 = .ok (.istore_n 3, 1) := by decide +kernel
theorem dX5_leadsOut_7 : decode cX5_leadsOut 7 = .ok (.iload_n 1, 1) := by decide +kernel
theorem dX5_leadsOut_8 : decode cX5_leadsOut 8 = .ok (.bipush 10, 2) := by decide +kernel
theorem dX5_leadsOut_10 : decode cX5_leadsOut 10 = .ok (.if_icmp .lt 7, 3) := by decide +kernel
theorem dX5_leadsOut_13 : decode cX5_leadsOut 13 = .ok (.iconst 1, 1) := by decide +kernel
theorem dX5_leadsOut_14 : decode cX5_leadsOut 14 = .ok (.goto 4, 3) := by decide +kernel
theorem dX5_leadsOut_17 : decode cX5_leadsOut 17 = .ok (.iconst 0, 1) := by decide +kernel
theorem dX5_leadsOut_18 : decode cX5_leadsOut 18 = .ok (.istore 4, 2) := by decide +kernel
theorem dX5_leadsOut_20 : decode cX5_leadsOut 20 = .ok (.aload_n 0, 1) := by decide +kernel
theorem dX5_leadsOut_21 : decode cX5_leadsOut 21 = .ok (.iload_n 2, 1) := by decide +kernel
theorem dX5_leadsOut_22 : decode cX5_leadsOut 22 = .ok (.iconst 0, 1) := by decide +kernel
theorem dX5_leadsOut_23 : decode cX5_leadsOut 23 = .ok (.invokevirtual 180, 3) := by decide +kernel
theorem dX5_leadsOut_26 : decode cX5_leadsOut 26 = .ok (.iload_n 1, 1) := by decide +kernel
theorem dX5_leadsOut_27 : decode cX5_leadsOut 27 = .ok (.bipush 10, 2) := by decide +kernel
theorem dX5_leadsOut_29 : decode cX5_leadsOut 29 = .ok (.irem, 1) := by decide +kernel
theorem dX5_leadsOut_30 : decode cX5_leadsOut 30 = .ok (.if_icmp .ne 23, 3) := by decide +kernel
theorem dX5_leadsOut_33 : decode cX5_leadsOut 33 = .ok (.iload_n 3, 1) := by decide +kernel
theorem dX5_leadsOut_34 : decode cX5_leadsOut 34 = .ok (.iconst 2, 1) := by decide +kernel
theorem dX5_leadsOut_35 : decode cX5_leadsOut 35 = .ok (.if_icmp .ne 8, 3) := by decide +kernel
theorem dX5_leadsOut_38 : decode cX5_leadsOut 38 = .ok (.iload 4, 2) := by decide +kernel
theorem dX5_leadsOut_40 : decode cX5_leadsOut 40 = .ok (.ifCond .ne 13, 3) := by decide +kernel
theorem dX5_leadsOut_43 : decode cX5_leadsOut 43 = .ok (.iload_n 3, 1) := by decide +kernel
theorem dX5_leadsOut_44 : decode cX5_leadsOut 44 = .ok (.iconst 3, 1) := by decide +kernel
theorem dX5_leadsOut_45 : decode cX5_leadsOut 45 = .ok (.if_icmp .ne 10, 3) := by decide +kernel
theorem dX5_leadsOut_48 : decode cX5_leadsOut 48 = .ok (.iload 4, 2) := by decide +kernel
theorem dX5_leadsOut_50 : decode cX5_leadsOut 50 = .ok (.ifCond .ne 5, 3) := by decide +kernel
theorem dX5_leadsOut_53 : decode cX5_leadsOut 53 = .ok (.iconst 0, 1) := by decide +kernel
theorem dX5_leadsOut_54 : decode cX5_leadsOut 54 = .ok (.ireturn, 1) := by decide +kernel
theorem dX5_leadsOut_55 : decode cX5_leadsOut 55 = .ok (.iload_n 3, 1) := by decide +kernel
theorem dX5_leadsOut_56 : decode cX5_leadsOut 56 = .ok (.iconst 2, 1) := by decide +kernel
theorem dX5_leadsOut_57 : decode cX5_leadsOut 57 = .ok (.if_icmp .eq 13, 3) := by decide +kernel
theorem dX5_leadsOut_60 : decode cX5_leadsOut 60 = .ok (.iload_n 3, 1) := by decide +kernel
theorem dX5_leadsOut_61 : decode cX5_leadsOut 61 = .ok (.iconst 3, 1) := by decide +kernel
theorem dX5_leadsOut_62 : decode cX5_leadsOut 62 = .ok (.if_icmp .eq 12, 3) := by decide +kernel
theorem dX5_leadsOut_65 : decode cX5_leadsOut 65 = .ok (.iload 4, 2) := by decide +kernel
theorem dX5_leadsOut_67 : decode cX5_leadsOut 67 = .ok (.ifCond .eq 7, 3) := by decide +kernel
theorem dX5_leadsOut_70 : decode cX5_leadsOut 70 = .ok (.iconst 1, 1) := by decide +kernel
theorem dX5_leadsOut_71 : decode cX5_leadsOut 71 = .ok (.goto 4, 3) := by decide +kernel
theorem dX5_leadsOut_74 : decode cX5_leadsOut 74 = .ok (.iconst 0, 1) := by decide +kernel
theorem dX5_leadsOut_75 : decode cX5_leadsOut 75 = .ok (.istore 5, 2) := by decide +kernel
theorem dX5_leadsOut_77 : decode cX5_leadsOut 77 = .ok (.aload_n 0, 1) := by decide +kernel
theorem dX5_leadsOut_78 : decode cX5_leadsOut 78 = .ok (.getfield 101, 3) := by decide +kernel
theorem dX5_leadsOut_81 : decode cX5_leadsOut 81 = .ok (.aload_n 0, 1) := by decide +kernel
theorem dX5_leadsOut_82 : decode cX5_leadsOut 82 = .ok (.iload_n 2, 1) := by decide +kernel
theorem dX5_leadsOut_83 : decode cX5_leadsOut 83 = .ok (.iconst 2, 1) := by decide +kernel
theorem dX5_leadsOut_84 : decode cX5_leadsOut 84 = .ok (.invokevirtual 180, 3) := by decide +kernel
theorem dX5_leadsOut_87 : decode cX5_leadsOut 87 = .ok (.iload 5, 2) := by decide +kernel
theorem dX5_leadsOut_89 : decode cX5_leadsOut 89 = .ok (.ifCond .eq 8, 3) := by decide +kernel
theorem dX5_leadsOut_92 : decode cX5_leadsOut 92 = .ok (.bipush 10, 2) := by decide +kernel
theorem dX5_leadsOut_94 : decode cX5_leadsOut 94 = .ok (.goto 4, 3) := by decide +kernel
theorem dX5_leadsOut_97 : decode cX5_leadsOut 97 = .ok (.iconst 0, 1) := by decide +kernel
theorem dX5_leadsOut_98 : decode cX5_leadsOut 98 = .ok (.iadd, 1) := by decide +kernel
theorem dX5_leadsOut_99 : decode cX5_leadsOut 99 = .ok (.baload, 1) := by decide +kernel
theorem dX5_leadsOut_100 : decode cX5_leadsOut 100 = .ok (.ireturn, 1) := by decide +kernel
set_option maxRecDepth 20000 in
theorem ggX5_settled_X5_findOut : GoodIn wsX5_settled wsX5_findOut := goodIn_r _ [11, 6, 12, 13, 14, 15, 16, 17, 10, 18, 19, 20, 21, 22, 23, 24, 25, 26, 27, 28, 69, 70, 71, 72, 73, 74, 75, 76, 77, 78, 79, 80, 81, 82, 83, 84, 85, 86, 87, 88, 89, 90, 91, 92, 93, 94, 95, 96, 97, 98] (by decide +kernel) (by decide +kernel)
set_option maxRecDepth 20000 in
theorem gX5_settled_X5_findOut : GoodIn wsX5_settled (wsV RX5 231 RX5 yX5_findOut wsX5_findOut) := goodIn_app (goodIn_of _ (by decide +kernel)) ggX5_settled_X5_findOut
set_option maxRecDepth 20000 in
theorem ggX5_settled_X5_laysOut : GoodIn wsX5_settled wsX5_laysOut := goodIn_r _ [32, 3, 2, 4, 5, 12, 13, 14, 33, 34, 35, 10, 36, 37, 38, 39, 24, 25, 26, 27, 28, 15, 16, 17, 18, 19, 40, 41, 42, 43, 44, 45, 46, 47, 48, 49, 50, 51, 69, 70, 71, 72, 73, 74, 75, 76, 77, 78, 79, 80, 81, 82, 83, 84, 85, 86, 87, 88, 89, 90, 91, 92, 93, 94, 95, 96, 97, 98] (by decide +kernel) (by decide +kernel)
set_option maxRecDepth 20000 in
theorem gX5_settled_X5_laysOut : GoodIn wsX5_settled (wsV RX5 208 RX5 yX5_laysOut wsX5_laysOut) := goodIn_app (goodIn_of _ (by decide +kernel)) ggX5_settled_X5_laysOut
set_option maxRecDepth 20000 in
theorem ggX5_settled_X5_goesFrom : GoodIn wsX5_settled wsX5_goesFrom := goodIn_r _ [55, 2, 4, 3, 56, 12, 13, 14, 57, 58, 33, 34, 35, 10, 36, 37, 38, 39, 24, 25, 26, 27, 28, 15, 16, 17, 18, 19, 40, 41, 42, 43, 69, 70, 71, 72, 73, 74, 75, 76, 77, 78, 79, 80, 81, 82, 83, 84, 85, 86, 87, 88, 89, 90, 91, 92, 93, 94, 95, 96, 97, 98] (by decide +kernel) (by decide +kernel)
set_option maxRecDepth 20000 in
theorem gX5_settled_X5_goesFrom : GoodIn wsX5_settled (wsV RX5 214 RX5 yX5_goesFrom wsX5_goesFrom) := goodIn_app (goodIn_of _ (by decide +kernel)) ggX5_settled_X5_goesFrom
set_option maxRecDepth 20000 in
theorem ggX5_settled_X5_keeps : GoodIn wsX5_settled wsX5_keeps := goodIn_r _ [62, 3, 63, 57, 64, 56, 69, 70, 71, 72, 73, 74, 75, 76, 77, 78, 79, 80, 81, 82, 83, 84, 85, 86, 87, 88, 89, 90, 91, 92, 93, 94, 95, 96, 97, 98] (by decide +kernel) (by decide +kernel)
set_option maxRecDepth 20000 in
theorem gX5_settled_X5_keeps : GoodIn wsX5_settled (wsV RX5 234 RX5 yX5_keeps wsX5_keeps) := goodIn_app (goodIn_of _ (by decide +kernel)) ggX5_settled_X5_keeps
set_option maxRecDepth 20000 in
theorem ggX5_settled_X5_alike : GoodIn wsX5_settled wsX5_alike := goodIn_r _ [68, 63, 57, 64, 56, 69, 70, 71, 72, 73, 74, 75, 76, 77, 78, 79, 80, 81, 82, 83, 84, 85, 86, 87, 88, 89, 90, 91, 92, 93, 94, 95, 96, 97, 98] (by decide +kernel) (by decide +kernel)
set_option maxRecDepth 20000 in
theorem gX5_settled_X5_alike : GoodIn wsX5_settled (wsV RX5 238 RX5 yX5_alike wsX5_alike) := goodIn_app (goodIn_of _ (by decide +kernel)) ggX5_settled_X5_alike
theorem dX5_settled_0 : decode cX5_settled 0 = .ok (.aload_n 0, 1) := by decide +kernel
theorem dX5_settled_1 : decode cX5_settled 1 = .ok (.iconst 0, 1) := by decide +kernel
theorem dX5_settled_2 : decode cX5_settled 2 = .ok (.putfield 1, 3) := by decide +kernel
theorem dX5_settled_5 : decode cX5_settled 5 = .ok (.aload_n 0, 1) := by decide +kernel
theorem dX5_settled_6 : decode cX5_settled 6 = .ok (.invokevirtual 231, 3) := by decide +kernel
theorem dX5_settled_9 : decode cX5_settled 9 = .ok (.iconst (-1), 1) := by decide +kernel
theorem dX5_settled_10 : decode cX5_settled 10 = .ok (.istore_n 1, 1) := by decide +kernel
theorem dX5_settled_11 : decode cX5_settled 11 = .ok (.iconst 0, 1) := by decide +kernel
theorem dX5_settled_12 : decode cX5_settled 12 = .ok (.istore_n 2, 1) := by decide +kernel
theorem dX5_settled_13 : decode cX5_settled 13 = .ok (.iload_n 2, 1) := by decide +kernel
theorem dX5_settled_14 : decode cX5_settled 14 = .ok (.bipush 20, 2) := by decide +kernel
theorem dX5_settled_16 : decode cX5_settled 16 = .ok (.if_icmp .ge 101, 3) := by decide +kernel
theorem dX5_settled_19 : decode cX5_settled 19 = .ok (.iconst 0, 1) := by decide +kernel
theorem dX5_settled_20 : decode cX5_settled 20 = .ok (.istore_n 3, 1) := by decide +kernel
theorem dX5_settled_21 : decode cX5_settled 21 = .ok (.iload_n 3, 1) := by decide +kernel
theorem dX5_settled_22 : decode cX5_settled 22 = .ok (.bipush 20, 2) := by decide +kernel
theorem dX5_settled_24 : decode cX5_settled 24 = .ok (.if_icmp .ge 50, 3) := by decide +kernel
theorem dX5_settled_27 : decode cX5_settled 27 = .ok (.aload_n 0, 1) := by decide +kernel
theorem dX5_settled_28 : decode cX5_settled 28 = .ok (.getfield 86, 3) := by decide +kernel
theorem dX5_settled_31 : decode cX5_settled 31 = .ok (.bipush 20, 2) := by decide +kernel
theorem dX5_settled_33 : decode cX5_settled 33 = .ok (.aload_n 0, 1) := by decide +kernel
theorem dX5_settled_34 : decode cX5_settled 34 = .ok (.getfield 186, 3) := by decide +kernel
theorem dX5_settled_37 : decode cX5_settled 37 = .ok (.imul, 1) := by decide +kernel
theorem dX5_settled_38 : decode cX5_settled 38 = .ok (.iload_n 3, 1) := by decide +kernel
theorem dX5_settled_39 : decode cX5_settled 39 = .ok (.iadd, 1) := by decide +kernel
theorem dX5_settled_40 : decode cX5_settled 40 = .ok (.iload_n 3, 1) := by decide +kernel
theorem dX5_settled_41 : decode cX5_settled 41 = .ok (.iload_n 2, 1) := by decide +kernel
theorem dX5_settled_42 : decode cX5_settled 42 = .ok (.if_icmp .ne 7, 3) := by decide +kernel
theorem dX5_settled_45 : decode cX5_settled 45 = .ok (.iconst 0, 1) := by decide +kernel
theorem dX5_settled_46 : decode cX5_settled 46 = .ok (.goto 5, 3) := by decide +kernel
theorem dX5_settled_49 : decode cX5_settled 49 = .ok (.ldc 192, 2) := by decide +kernel
theorem dX5_settled_51 : decode cX5_settled 51 = .ok (.iastore, 1) := by decide +kernel
theorem dX5_settled_52 : decode cX5_settled 52 = .ok (.aload_n 0, 1) := by decide +kernel
theorem dX5_settled_53 : decode cX5_settled 53 = .ok (.getfield 89, 3) := by decide +kernel
theorem dX5_settled_56 : decode cX5_settled 56 = .ok (.bipush 20, 2) := by decide +kernel
theorem dX5_settled_58 : decode cX5_settled 58 = .ok (.aload_n 0, 1) := by decide +kernel
theorem dX5_settled_59 : decode cX5_settled 59 = .ok (.getfield 186, 3) := by decide +kernel
theorem dX5_settled_62 : decode cX5_settled 62 = .ok (.imul, 1) := by decide +kernel
theorem dX5_settled_63 : decode cX5_settled 63 = .ok (.iload_n 3, 1) := by decide +kernel
theorem dX5_settled_64 : decode cX5_settled 64 = .ok (.iadd, 1) := by decide +kernel
theorem dX5_settled_65 : decode cX5_settled 65 = .ok (.ldc 192, 2) := by decide +kernel
theorem dX5_settled_67 : decode cX5_settled 67 = .ok (.iastore, 1) := by decide +kernel
theorem dX5_settled_68 : decode cX5_settled 68 = .ok (.iinc 3 1, 3) := by decide +kernel
theorem dX5_settled_71 : decode cX5_settled 71 = .ok (.goto (-50), 3) := by decide +kernel
theorem dX5_settled_74 : decode cX5_settled 74 = .ok (.aload_n 0, 1) := by decide +kernel
theorem dX5_settled_75 : decode cX5_settled 75 = .ok (.invokevirtual 208, 3) := by decide +kernel
theorem dX5_settled_78 : decode cX5_settled 78 = .ok (.aload_n 0, 1) := by decide +kernel
theorem dX5_settled_79 : decode cX5_settled 79 = .ok (.getfield 101, 3) := by decide +kernel
theorem dX5_settled_82 : decode cX5_settled 82 = .ok (.iload_n 2, 1) := by decide +kernel
theorem dX5_settled_83 : decode cX5_settled 83 = .ok (.baload, 1) := by decide +kernel
theorem dX5_settled_84 : decode cX5_settled 84 = .ok (.ifCond .eq 27, 3) := by decide +kernel
theorem dX5_settled_87 : decode cX5_settled 87 = .ok (.aload_n 0, 1) := by decide +kernel
theorem dX5_settled_88 : decode cX5_settled 88 = .ok (.invokevirtual 214, 3) := by decide +kernel
theorem dX5_settled_91 : decode cX5_settled 91 = .ok (.ifCond .eq 20, 3) := by decide +kernel
theorem dX5_settled_94 : decode cX5_settled 94 = .ok (.iload_n 1, 1) := by decide +kernel
theorem dX5_settled_95 : decode cX5_settled 95 = .ok (.ifCond .ge 10, 3) := by decide +kernel
theorem dX5_settled_98 : decode cX5_settled 98 = .ok (.aload_n 0, 1) := by decide +kernel
theorem dX5_settled_99 : decode cX5_settled 99 = .ok (.invokevirtual 234, 3) := by decide +kernel
theorem dX5_settled_102 : decode cX5_settled 102 = .ok (.goto 8, 3) := by decide +kernel
theorem dX5_settled_105 : decode cX5_settled 105 = .ok (.aload_n 0, 1) := by decide +kernel
theorem dX5_settled_106 : decode cX5_settled 106 = .ok (.iload_n 1, 1) := by decide +kernel
theorem dX5_settled_107 : decode cX5_settled 107 = .ok (.invokevirtual 238, 3) := by decide +kernel
theorem dX5_settled_110 : decode cX5_settled 110 = .ok (.istore_n 1, 1) := by decide +kernel
theorem dX5_settled_111 : decode cX5_settled 111 = .ok (.iinc 2 1, 3) := by decide +kernel
theorem dX5_settled_114 : decode cX5_settled 114 = .ok (.goto (-101), 3) := by decide +kernel
theorem dX5_settled_117 : decode cX5_settled 117 = .ok (.iload_n 1, 1) := by decide +kernel
theorem dX5_settled_118 : decode cX5_settled 118 = .ok (.ifCond .ge 7, 3) := by decide +kernel
theorem dX5_settled_121 : decode cX5_settled 121 = .ok (.iconst 0, 1) := by decide +kernel
theorem dX5_settled_122 : decode cX5_settled 122 = .ok (.goto 4, 3) := by decide +kernel
theorem dX5_settled_125 : decode cX5_settled 125 = .ok (.iload_n 1, 1) := by decide +kernel
theorem dX5_settled_126 : decode cX5_settled 126 = .ok (.ireturn, 1) := by decide +kernel
theorem dX5_keeps_0 : decode cX5_keeps 0 = .ok (.iconst 0, 1) := by decide +kernel
theorem dX5_keeps_1 : decode cX5_keeps 1 = .ok (.istore_n 1, 1) := by decide +kernel
theorem dX5_keeps_2 : decode cX5_keeps 2 = .ok (.iload_n 1, 1) := by decide +kernel
theorem dX5_keeps_3 : decode cX5_keeps 3 = .ok (.aload_n 0, 1) := by decide +kernel
theorem dX5_keeps_4 : decode cX5_keeps 4 = .ok (.getfield 186, 3) := by decide +kernel
theorem dX5_keeps_7 : decode cX5_keeps 7 = .ok (.if_icmp .ge 33, 3) := by decide +kernel
theorem dX5_keeps_10 : decode cX5_keeps 10 = .ok (.aload_n 0, 1) := by decide +kernel
theorem dX5_keeps_11 : decode cX5_keeps 11 = .ok (.getfield 104, 3) := by decide +kernel
theorem dX5_keeps_14 : decode cX5_keeps 14 = .ok (.iload_n 1, 1) := by decide +kernel
theorem dX5_keeps_15 : decode cX5_keeps 15 = .ok (.aload_n 0, 1) := by decide +kernel
theorem dX5_keeps_16 : decode cX5_keeps 16 = .ok (.getfield 92, 3) := by decide +kernel
theorem dX5_keeps_19 : decode cX5_keeps 19 = .ok (.iload_n 1, 1) := by decide +kernel
theorem dX5_keeps_20 : decode cX5_keeps 20 = .ok (.iaload, 1) := by decide +kernel
theorem dX5_keeps_21 : decode cX5_keeps 21 = .ok (.iastore, 1) := by decide +kernel
theorem dX5_keeps_22 : decode cX5_keeps 22 = .ok (.aload_n 0, 1) := by decide +kernel
theorem dX5_keeps_23 : decode cX5_keeps 23 = .ok (.getfield 107, 3) := by decide +kernel
theorem dX5_keeps_26 : decode cX5_keeps 26 = .ok (.iload_n 1, 1) := by decide +kernel
theorem dX5_keeps_27 : decode cX5_keeps 27 = .ok (.aload_n 0, 1) := by decide +kernel
theorem dX5_keeps_28 : decode cX5_keeps 28 = .ok (.getfield 95, 3) := by decide +kernel
theorem dX5_keeps_31 : decode cX5_keeps 31 = .ok (.iload_n 1, 1) := by decide +kernel
theorem dX5_keeps_32 : decode cX5_keeps 32 = .ok (.iaload, 1) := by decide +kernel
theorem dX5_keeps_33 : decode cX5_keeps 33 = .ok (.iastore, 1) := by decide +kernel
theorem dX5_keeps_34 : decode cX5_keeps 34 = .ok (.iinc 1 1, 3) := by decide +kernel
theorem dX5_keeps_37 : decode cX5_keeps 37 = .ok (.goto (-35), 3) := by decide +kernel
theorem dX5_keeps_40 : decode cX5_keeps 40 = .ok (.aload_n 0, 1) := by decide +kernel
theorem dX5_keeps_41 : decode cX5_keeps 41 = .ok (.getfield 186, 3) := by decide +kernel
theorem dX5_keeps_44 : decode cX5_keeps 44 = .ok (.ireturn, 1) := by decide +kernel
theorem dX5_alike_0 : decode cX5_alike 0 = .ok (.iconst 0, 1) := by decide +kernel
theorem dX5_alike_1 : decode cX5_alike 1 = .ok (.istore_n 2, 1) := by decide +kernel
theorem dX5_alike_2 : decode cX5_alike 2 = .ok (.iload_n 2, 1) := by decide +kernel
theorem dX5_alike_3 : decode cX5_alike 3 = .ok (.iload_n 1, 1) := by decide +kernel
theorem dX5_alike_4 : decode cX5_alike 4 = .ok (.if_icmp .ge 39, 3) := by decide +kernel
theorem dX5_alike_7 : decode cX5_alike 7 = .ok (.aload_n 0, 1) := by decide +kernel
theorem dX5_alike_8 : decode cX5_alike 8 = .ok (.getfield 104, 3) := by decide +kernel
theorem dX5_alike_11 : decode cX5_alike 11 = .ok (.iload_n 2, 1) := by decide +kernel
theorem dX5_alike_12 : decode cX5_alike 12 = .ok (.iaload, 1) := by decide +kernel
theorem dX5_alike_13 : decode cX5_alike 13 = .ok (.aload_n 0, 1) := by decide +kernel
theorem dX5_alike_14 : decode cX5_alike 14 = .ok (.getfield 92, 3) := by decide +kernel
theorem dX5_alike_17 : decode cX5_alike 17 = .ok (.iload_n 2, 1) := by decide +kernel
theorem dX5_alike_18 : decode cX5_alike 18 = .ok (.iaload, 1) := by decide +kernel
theorem dX5_alike_19 : decode cX5_alike 19 = .ok (.if_icmp .ne 24, 3) := by decide +kernel
theorem dX5_alike_22 : decode cX5_alike 22 = .ok (.aload_n 0, 1) := by decide +kernel
theorem dX5_alike_23 : decode cX5_alike 23 = .ok (.getfield 107, 3) := by decide +kernel
theorem dX5_alike_26 : decode cX5_alike 26 = .ok (.iload_n 2, 1) := by decide +kernel
theorem dX5_alike_27 : decode cX5_alike 27 = .ok (.iaload, 1) := by decide +kernel
theorem dX5_alike_28 : decode cX5_alike 28 = .ok (.aload_n 0, 1) := by decide +kernel
theorem dX5_alike_29 : decode cX5_alike 29 = .ok (.getfield 95, 3) := by decide +kernel
theorem dX5_alike_32 : decode cX5_alike 32 = .ok (.iload_n 2, 1) := by decide +kernel
theorem dX5_alike_33 : decode cX5_alike 33 = .ok (.iaload, 1) := by decide +kernel
theorem dX5_alike_34 : decode cX5_alike 34 = .ok (.if_icmp .ne 9, 3) := by decide +kernel
theorem dX5_alike_37 : decode cX5_alike 37 = .ok (.iinc 2 1, 3) := by decide +kernel
theorem dX5_alike_40 : decode cX5_alike 40 = .ok (.goto (-38), 3) := by decide +kernel
theorem dX5_alike_43 : decode cX5_alike 43 = .ok (.iload_n 2, 1) := by decide +kernel
theorem dX5_alike_44 : decode cX5_alike 44 = .ok (.ireturn, 1) := by decide +kernel
theorem dX5_count_0 : decode cX5_count 0 = .ok (.aload_n 0, 1) := by decide +kernel
theorem dX5_count_1 : decode cX5_count 1 = .ok (.iconst 0, 1) := by decide +kernel
theorem dX5_count_2 : decode cX5_count 2 = .ok (.putfield 1, 3) := by decide +kernel
theorem dX5_count_5 : decode cX5_count 5 = .ok (.iconst 0, 1) := by decide +kernel
theorem dX5_count_6 : decode cX5_count 6 = .ok (.istore_n 2, 1) := by decide +kernel
theorem dX5_count_7 : decode cX5_count 7 = .ok (.iconst 0, 1) := by decide +kernel
theorem dX5_count_8 : decode cX5_count 8 = .ok (.istore_n 3, 1) := by decide +kernel
theorem dX5_count_9 : decode cX5_count 9 = .ok (.iload_n 3, 1) := by decide +kernel
theorem dX5_count_10 : decode cX5_count 10 = .ok (.aload_n 0, 1) := by decide +kernel
theorem dX5_count_11 : decode cX5_count 11 = .ok (.getfield 186, 3) := by decide +kernel
theorem dX5_count_14 : decode cX5_count 14 = .ok (.if_icmp .ge 26, 3) := by decide +kernel
theorem dX5_count_17 : decode cX5_count 17 = .ok (.iload_n 2, 1) := by decide +kernel
theorem dX5_count_18 : decode cX5_count 18 = .ok (.aload_n 0, 1) := by decide +kernel
theorem dX5_count_19 : decode cX5_count 19 = .ok (.getfield 83, 3) := by decide +kernel
theorem dX5_count_22 : decode cX5_count 22 = .ok (.iload_n 3, 1) := by decide +kernel
theorem dX5_count_23 : decode cX5_count 23 = .ok (.iaload, 1) := by decide +kernel
theorem dX5_count_24 : decode cX5_count 24 = .ok (.ifCond .lt 7, 3) := by decide +kernel
theorem dX5_count_27 : decode cX5_count 27 = .ok (.iconst 1, 1) := by decide +kernel
theorem dX5_count_28 : decode cX5_count 28 = .ok (.goto 4, 3) := by decide +kernel
theorem dX5_count_31 : decode cX5_count 31 = .ok (.iconst 0, 1) := by decide +kernel
theorem dX5_count_32 : decode cX5_count 32 = .ok (.iadd, 1) := by decide +kernel
theorem dX5_count_33 : decode cX5_count 33 = .ok (.istore_n 2, 1) := by decide +kernel
theorem dX5_count_34 : decode cX5_count 34 = .ok (.iinc 3 1, 3) := by decide +kernel
theorem dX5_count_37 : decode cX5_count 37 = .ok (.goto (-28), 3) := by decide +kernel
theorem dX5_count_40 : decode cX5_count 40 = .ok (.iload_n 1, 1) := by decide +kernel
theorem dX5_count_41 : decode cX5_count 41 = .ok (.ifCond .ne 10, 3) := by decide +kernel
theorem dX5_count_44 : decode cX5_count 44 = .ok (.aload_n 0, 1) := by decide +kernel
theorem dX5_count_45 : decode cX5_count 45 = .ok (.getfield 186, 3) := by decide +kernel
theorem dX5_count_48 : decode cX5_count 48 = .ok (.goto 59, 3) := by decide +kernel
theorem dX5_count_51 : decode cX5_count 51 = .ok (.iload_n 1, 1) := by decide +kernel
theorem dX5_count_52 : decode cX5_count 52 = .ok (.iconst 1, 1) := by decide +kernel
theorem dX5_count_53 : decode cX5_count 53 = .ok (.if_icmp .ne 15, 3) := by decide +kernel
theorem dX5_count_56 : decode cX5_count 56 = .ok (.aload_n 0, 1) := by decide +kernel
theorem dX5_count_57 : decode cX5_count 57 = .ok (.getfield 61, 3) := by decide +kernel
theorem dX5_count_60 : decode cX5_count 60 = .ok (.aload_n 0, 1) := by decide +kernel
theorem dX5_count_61 : decode cX5_count 61 = .ok (.getfield 155, 3) := by decide +kernel
theorem dX5_count_64 : decode cX5_count 64 = .ok (.iaload, 1) := by decide +kernel
theorem dX5_count_65 : decode cX5_count 65 = .ok (.goto 42, 3) := by decide +kernel
theorem dX5_count_68 : decode cX5_count 68 = .ok (.iload_n 1, 1) := by decide +kernel
theorem dX5_count_69 : decode cX5_count 69 = .ok (.iconst 2, 1) := by decide +kernel
theorem dX5_count_70 : decode cX5_count 70 = .ok (.if_icmp .ne 15, 3) := by decide +kernel
theorem dX5_count_73 : decode cX5_count 73 = .ok (.aload_n 0, 1) := by decide +kernel
theorem dX5_count_74 : decode cX5_count 74 = .ok (.getfield 67, 3) := by decide +kernel
theorem dX5_count_77 : decode cX5_count 77 = .ok (.aload_n 0, 1) := by decide +kernel
theorem dX5_count_78 : decode cX5_count 78 = .ok (.getfield 155, 3) := by decide +kernel
theorem dX5_count_81 : decode cX5_count 81 = .ok (.iaload, 1) := by decide +kernel
theorem dX5_count_82 : decode cX5_count 82 = .ok (.goto 25, 3) := by decide +kernel
theorem dX5_count_85 : decode cX5_count 85 = .ok (.iload_n 1, 1) := by decide +kernel
theorem dX5_count_86 : decode cX5_count 86 = .ok (.iconst 3, 1) := by decide +kernel
theorem dX5_count_87 : decode cX5_count 87 = .ok (.if_icmp .ne 10, 3) := by decide +kernel
theorem dX5_count_90 : decode cX5_count 90 = .ok (.aload_n 0, 1) := by decide +kernel
theorem dX5_count_91 : decode cX5_count 91 = .ok (.getfield 11, 3) := by decide +kernel
theorem dX5_count_94 : decode cX5_count 94 = .ok (.goto 13, 3) := by decide +kernel
theorem dX5_count_97 : decode cX5_count 97 = .ok (.iload_n 1, 1) := by decide +kernel
theorem dX5_count_98 : decode cX5_count 98 = .ok (.iconst 4, 1) := by decide +kernel
end
section
theorem dX5_count_99 : decode cX5_count 99 = .ok (.if_icmp .ne 7, 3) := by decide +kernel
theorem dX5_count_102 : decode cX5_count 102 = .ok (.iload_n 2, 1) := by decide +kernel
theorem dX5_count_103 : decode cX5_count 103 = .ok (.goto 4, 3) := by decide +kernel
theorem dX5_count_106 : decode cX5_count 106 = .ok (.iconst (-1), 1) := by decide +kernel
theorem dX5_count_107 : decode cX5_count 107 = .ok (.ireturn, 1) := by decide +kernel
theorem dJ9_min_7cf53_0 : decode cJ9_min_7cf53 0 = .ok (.iload_n 0, 1) := by decide +kernel
theorem dJ9_min_7cf53_1 : decode cJ9_min_7cf53 1 = .ok (.iload_n 1, 1) := by decide +kernel
theorem dJ9_min_7cf53_2 : decode cJ9_min_7cf53 2 = .ok (.if_icmp .gt 7, 3) := by decide +kernel
theorem dJ9_min_7cf53_5 : decode cJ9_min_7cf53 5 = .ok (.iload_n 0, 1) := by decide +kernel
theorem dJ9_min_7cf53_6 : decode cJ9_min_7cf53 6 = .ok (.goto 4, 3) := by decide +kernel
theorem dJ9_min_7cf53_9 : decode cJ9_min_7cf53 9 = .ok (.iload_n 1, 1) := by decide +kernel
theorem dJ9_min_7cf53_10 : decode cJ9_min_7cf53 10 = .ok (.ireturn, 1) := by decide +kernel
set_option maxRecDepth 20000 in
theorem ggJ0_length_8abf5_J0_coder_7d493 : GoodIn wsJ0_length_8abf5 wsJ0_coder_7d493 := goodIn_r _ [6, 7, 8] (by decide +kernel) (by decide +kernel)
set_option maxRecDepth 20000 in
theorem gJ0_length_8abf5_J0_coder_7d493 : GoodIn wsJ0_length_8abf5 (wsV RJ0 335 RJ0 yJ0_coder_7d493 wsJ0_coder_7d493) := goodIn_app (goodIn_of _ (by decide +kernel)) ggJ0_length_8abf5_J0_coder_7d493
theorem dJ0_length_8abf5_0 : decode cJ0_length_8abf5 0 = .ok (.aload_n 0, 1) := by decide +kernel
theorem dJ0_length_8abf5_1 : decode cJ0_length_8abf5 1 = .ok (.getfield 9, 3) := by decide +kernel
theorem dJ0_length_8abf5_4 : decode cJ0_length_8abf5 4 = .ok (.arraylength, 1) := by decide +kernel
theorem dJ0_length_8abf5_5 : decode cJ0_length_8abf5 5 = .ok (.aload_n 0, 1) := by decide +kernel
theorem dJ0_length_8abf5_6 : decode cJ0_length_8abf5 6 = .ok (.invokevirtual 335, 3) := by decide +kernel
theorem dJ0_length_8abf5_9 : decode cJ0_length_8abf5 9 = .ok (.ishr, 1) := by decide +kernel
theorem dJ0_length_8abf5_10 : decode cJ0_length_8abf5 10 = .ok (.ireturn, 1) := by decide +kernel
set_option maxRecDepth 20000 in
theorem ggJ0_charAt_5068e_J0_isLatin1_aae02 : GoodIn wsJ0_charAt_5068e wsJ0_isLatin1_aae02 := goodIn_r _ [6, 7, 8] (by decide +kernel) (by decide +kernel)
set_option maxRecDepth 20000 in
theorem gJ0_charAt_5068e_J0_isLatin1_aae02 : GoodIn wsJ0_charAt_5068e (wsV RJ0 492 RJ0 yJ0_isLatin1_aae02 wsJ0_isLatin1_aae02) := goodIn_app (goodIn_of _ (by decide +kernel)) ggJ0_charAt_5068e_J0_isLatin1_aae02
set_option maxRecDepth 20000 in
theorem ggJ0_charAt_5068e_J1_charAt_3b067 : GoodIn wsJ0_charAt_5068e wsJ1_charAt_3b067 := goodIn_r _ [12, 13, 14, 5, 15, 16, 17, 18, 19, 20] (by decide +kernel) (by decide +kernel)
set_option maxRecDepth 20000 in
theorem gJ0_charAt_5068e_J1_charAt_3b067 : GoodIn wsJ0_charAt_5068e (va_wsS RJ0 495 yJ1_charAt_3b067 wsJ1_charAt_3b067) := goodIn_app (goodIn_of _ (by decide +kernel)) ggJ0_charAt_5068e_J1_charAt_3b067
set_option maxRecDepth 20000 in
theorem ggJ0_charAt_5068e_J2_charAt_3b067 : GoodIn wsJ0_charAt_5068e wsJ2_charAt_3b067 := goodIn_r _ [24, 25, 26, 23, 27, 28, 29, 30, 31, 14, 5, 15, 16, 17, 18, 19, 20, 32, 33, 34, 35, 36, 37] (by decide +kernel) (by decide +kernel)
set_option maxRecDepth 20000 in
theorem gJ0_charAt_5068e_J2_charAt_3b067 : GoodIn wsJ0_charAt_5068e (va_wsS RJ0 498 yJ2_charAt_3b067 wsJ2_charAt_3b067) := goodIn_app (goodIn_of _ (by decide +kernel)) ggJ0_charAt_5068e_J2_charAt_3b067
theorem dJ0_charAt_5068e_0 : decode cJ0_charAt_5068e 0 = .ok (.aload_n 0, 1) := by decide +kernel
theorem dJ0_charAt_5068e_1 : decode cJ0_charAt_5068e 1 = .ok (.invokevirtual 492, 3) := by decide +kernel
theorem dJ0_charAt_5068e_4 : decode cJ0_charAt_5068e 4 = .ok (.ifCond .eq 12, 3) := by decide +kernel
theorem dJ0_charAt_5068e_7 : decode cJ0_charAt_5068e 7 = .ok (.aload_n 0, 1) := by decide +kernel
theorem dJ0_charAt_5068e_8 : decode cJ0_charAt_5068e 8 = .ok (.getfield 9, 3) := by decide +kernel
theorem dJ0_charAt_5068e_11 : decode cJ0_charAt_5068e 11 = .ok (.iload_n 1, 1) := by decide +kernel
theorem dJ0_charAt_5068e_12 : decode cJ0_charAt_5068e 12 = .ok (.invokestatic 495, 3) := by decide +kernel
theorem dJ0_charAt_5068e_15 : decode cJ0_charAt_5068e 15 = .ok (.ireturn, 1) := by decide +kernel
theorem dJ0_charAt_5068e_16 : decode cJ0_charAt_5068e 16 = .ok (.aload_n 0, 1) := by decide +kernel
theorem dJ0_charAt_5068e_17 : decode cJ0_charAt_5068e 17 = .ok (.getfield 9, 3) := by decide +kernel
theorem dJ0_charAt_5068e_20 : decode cJ0_charAt_5068e 20 = .ok (.iload_n 1, 1) := by decide +kernel
theorem dJ0_charAt_5068e_21 : decode cJ0_charAt_5068e 21 = .ok (.invokestatic 498, 3) := by decide +kernel
theorem dJ0_charAt_5068e_24 : decode cJ0_charAt_5068e 24 = .ok (.ireturn, 1) := by decide +kernel
theorem dJ0_coder_7d493_0 : decode cJ0_coder_7d493 0 = .ok (.getstatic 38, 3) := by decide +kernel
theorem dJ0_coder_7d493_3 : decode cJ0_coder_7d493 3 = .ok (.ifCond .eq 10, 3) := by decide +kernel
theorem dJ0_coder_7d493_6 : decode cJ0_coder_7d493 6 = .ok (.aload_n 0, 1) := by decide +kernel
theorem dJ0_coder_7d493_7 : decode cJ0_coder_7d493 7 = .ok (.getfield 15, 3) := by decide +kernel
theorem dJ0_coder_7d493_10 : decode cJ0_coder_7d493 10 = .ok (.goto 4, 3) := by decide +kernel
theorem dJ0_coder_7d493_13 : decode cJ0_coder_7d493 13 = .ok (.iconst 1, 1) := by decide +kernel
theorem dJ0_coder_7d493_14 : decode cJ0_coder_7d493 14 = .ok (.ireturn, 1) := by decide +kernel
theorem dJ0_isLatin1_aae02_0 : decode cJ0_isLatin1_aae02 0 = .ok (.getstatic 38, 3) := by decide +kernel
theorem dJ0_isLatin1_aae02_3 : decode cJ0_isLatin1_aae02 3 = .ok (.ifCond .eq 14, 3) := by decide +kernel
theorem dJ0_isLatin1_aae02_6 : decode cJ0_isLatin1_aae02 6 = .ok (.aload_n 0, 1) := by decide +kernel
theorem dJ0_isLatin1_aae02_7 : decode cJ0_isLatin1_aae02 7 = .ok (.getfield 15, 3) := by decide +kernel
theorem dJ0_isLatin1_aae02_10 : decode cJ0_isLatin1_aae02 10 = .ok (.ifCond .ne 7, 3) := by decide +kernel
theorem dJ0_isLatin1_aae02_13 : decode cJ0_isLatin1_aae02 13 = .ok (.iconst 1, 1) := by decide +kernel
theorem dJ0_isLatin1_aae02_14 : decode cJ0_isLatin1_aae02 14 = .ok (.goto 4, 3) := by decide +kernel
theorem dJ0_isLatin1_aae02_17 : decode cJ0_isLatin1_aae02 17 = .ok (.iconst 0, 1) := by decide +kernel
theorem dJ0_isLatin1_aae02_18 : decode cJ0_isLatin1_aae02 18 = .ok (.ireturn, 1) := by decide +kernel
set_option maxRecDepth 20000 in
theorem ggJ0_checkIndex_df160_J3_checkIndex_8e157 : GoodIn wsJ0_checkIndex_df160 wsJ3_checkIndex_8e157 := goodIn_r _ [5] (by decide +kernel) (by decide +kernel)
set_option maxRecDepth 20000 in
theorem gJ0_checkIndex_df160_J3_checkIndex_8e157 : GoodIn wsJ0_checkIndex_df160 (va_wsS RJ0 1059 yJ3_checkIndex_8e157 wsJ3_checkIndex_8e157) := goodIn_app (goodIn_of _ (by decide +kernel)) ggJ0_checkIndex_df160_J3_checkIndex_8e157
theorem dJ0_checkIndex_df160_0 : decode cJ0_checkIndex_df160 0 = .ok (.iload_n 0, 1) := by decide +kernel
theorem dJ0_checkIndex_df160_1 : decode cJ0_checkIndex_df160 1 = .ok (.iload_n 1, 1) := by decide +kernel
theorem dJ0_checkIndex_df160_2 : decode cJ0_checkIndex_df160 2 = .ok (.getstatic 1053, 3) := by decide +kernel
theorem dJ0_checkIndex_df160_5 : decode cJ0_checkIndex_df160 5 = .ok (.invokestatic 1059, 3) := by decide +kernel
theorem dJ0_checkIndex_df160_8 : decode cJ0_checkIndex_df160 8 = .ok (.pop, 1) := by decide +kernel
theorem dJ0_checkIndex_df160_9 : decode cJ0_checkIndex_df160 9 = .ok (.return_, 1) := by decide +kernel
set_option maxRecDepth 20000 in
theorem ggJ1_charAt_3b067_J0_checkIndex_df160 : GoodIn wsJ1_charAt_3b067 wsJ0_checkIndex_df160 := goodIn_r _ [4, 5, 6, 7, 8, 9] (by decide +kernel) (by decide +kernel)
set_option maxRecDepth 20000 in
theorem gJ1_charAt_3b067_J0_checkIndex_df160 : GoodIn wsJ1_charAt_3b067 (va_wsS RJ1 9 yJ0_checkIndex_df160 wsJ0_checkIndex_df160) := goodIn_app (goodIn_of _ (by decide +kernel)) ggJ1_charAt_3b067_J0_checkIndex_df160
theorem dJ1_charAt_3b067_0 : decode cJ1_charAt_3b067 0 = .ok (.iload_n 1, 1) := by decide +kernel
theorem dJ1_charAt_3b067_1 : decode cJ1_charAt_3b067 1 = .ok (.aload_n 0, 1) := by decide +kernel
theorem dJ1_charAt_3b067_2 : decode cJ1_charAt_3b067 2 = .ok (.arraylength, 1) := by decide +kernel
theorem dJ1_charAt_3b067_3 : decode cJ1_charAt_3b067 3 = .ok (.invokestatic 9, 3) := by decide +kernel
theorem dJ1_charAt_3b067_6 : decode cJ1_charAt_3b067 6 = .ok (.aload_n 0, 1) := by decide +kernel
theorem dJ1_charAt_3b067_7 : decode cJ1_charAt_3b067 7 = .ok (.iload_n 1, 1) := by decide +kernel
theorem dJ1_charAt_3b067_8 : decode cJ1_charAt_3b067 8 = .ok (.baload, 1) := by decide +kernel
theorem dJ1_charAt_3b067_9 : decode cJ1_charAt_3b067 9 = .ok (.sipush 255, 3) := by decide +kernel
theorem dJ1_charAt_3b067_12 : decode cJ1_charAt_3b067 12 = .ok (.iand, 1) := by decide +kernel
theorem dJ1_charAt_3b067_13 : decode cJ1_charAt_3b067 13 = .ok (.i2c, 1) := by decide +kernel
theorem dJ1_charAt_3b067_14 : decode cJ1_charAt_3b067 14 = .ok (.ireturn, 1) := by decide +kernel
set_option maxRecDepth 20000 in
theorem ggJ2_getChar_3b067_J2_length_9d52b : GoodIn wsJ2_getChar_3b067 wsJ2_length_9d52b := goodIn_r _ [7] (by decide +kernel) (by decide +kernel)
set_option maxRecDepth 20000 in
theorem gJ2_getChar_3b067_J2_length_9d52b : GoodIn wsJ2_getChar_3b067 (va_wsS RJ2 48 yJ2_length_9d52b wsJ2_length_9d52b) := goodIn_app (goodIn_of _ (by decide +kernel)) ggJ2_getChar_3b067_J2_length_9d52b
theorem dJ2_getChar_3b067_0 : decode cJ2_getChar_3b067 0 = .ok (.getstatic 44, 3) := by decide +kernel
theorem dJ2_getChar_3b067_3 : decode cJ2_getChar_3b067 3 = .ok (.ifCond .ne 25, 3) := by decide +kernel
theorem dJ2_getChar_3b067_6 : decode cJ2_getChar_3b067 6 = .ok (.iload_n 1, 1) := by decide +kernel
theorem dJ2_getChar_3b067_7 : decode cJ2_getChar_3b067 7 = .ok (.ifCond .lt 11, 3) := by decide +kernel
theorem dJ2_getChar_3b067_10 : decode cJ2_getChar_3b067 10 = .ok (.iload_n 1, 1) := by decide +kernel
theorem dJ2_getChar_3b067_11 : decode cJ2_getChar_3b067 11 = .ok (.aload_n 0, 1) := by decide +kernel
theorem dJ2_getChar_3b067_12 : decode cJ2_getChar_3b067 12 = .ok (.invokestatic 48, 3) := by decide +kernel
theorem dJ2_getChar_3b067_15 : decode cJ2_getChar_3b067 15 = .ok (.if_icmp .lt 13, 3) := by decide +kernel
theorem dJ2_getChar_3b067_18 : decode cJ2_getChar_3b067 18 = .ok (.new 52, 3) := by decide +kernel
theorem dJ2_getChar_3b067_21 : decode cJ2_getChar_3b067 21 = .ok (.dup, 1) := by decide +kernel
theorem dJ2_getChar_3b067_22 : decode cJ2_getChar_3b067 22 = .ok (.ldc 54, 2) := by decide +kernel
theorem dJ2_getChar_3b067_24 : decode cJ2_getChar_3b067 24 = .ok (.invokespecial 56, 3) := by decide +kernel
theorem dJ2_getChar_3b067_27 : decode cJ2_getChar_3b067 27 = .ok (.athrow, 1) := by decide +kernel
theorem dJ2_getChar_3b067_28 : decode cJ2_getChar_3b067 28 = .ok (.iload_n 1, 1) := by decide +kernel
theorem dJ2_getChar_3b067_29 : decode cJ2_getChar_3b067 29 = .ok (.iconst 1, 1) := by decide +kernel
theorem dJ2_getChar_3b067_30 : decode cJ2_getChar_3b067 30 = .ok (.ishl, 1) := by decide +kernel
theorem dJ2_getChar_3b067_31 : decode cJ2_getChar_3b067 31 = .ok (.istore_n 1, 1) := by decide +kernel
theorem dJ2_getChar_3b067_32 : decode cJ2_getChar_3b067 32 = .ok (.aload_n 0, 1) := by decide +kernel
theorem dJ2_getChar_3b067_33 : decode cJ2_getChar_3b067 33 = .ok (.iload_n 1, 1) := by decide +kernel
theorem dJ2_getChar_3b067_34 : decode cJ2_getChar_3b067 34 = .ok (.iinc 1 1, 3) := by decide +kernel
theorem dJ2_getChar_3b067_37 : decode cJ2_getChar_3b067 37 = .ok (.baload, 1) := by decide +kernel
theorem dJ2_getChar_3b067_38 : decode cJ2_getChar_3b067 38 = .ok (.sipush 255, 3) := by decide +kernel
theorem dJ2_getChar_3b067_41 : decode cJ2_getChar_3b067 41 = .ok (.iand, 1) := by decide +kernel
theorem dJ2_getChar_3b067_42 : decode cJ2_getChar_3b067 42 = .ok (.getstatic 59, 3) := by decide +kernel
theorem dJ2_getChar_3b067_45 : decode cJ2_getChar_3b067 45 = .ok (.ishl, 1) := by decide +kernel
theorem dJ2_getChar_3b067_46 : decode cJ2_getChar_3b067 46 = .ok (.aload_n 0, 1) := by decide +kernel
theorem dJ2_getChar_3b067_47 : decode cJ2_getChar_3b067 47 = .ok (.iload_n 1, 1) := by decide +kernel
theorem dJ2_getChar_3b067_48 : decode cJ2_getChar_3b067 48 = .ok (.baload, 1) := by decide +kernel
theorem dJ2_getChar_3b067_49 : decode cJ2_getChar_3b067 49 = .ok (.sipush 255, 3) := by decide +kernel
theorem dJ2_getChar_3b067_52 : decode cJ2_getChar_3b067 52 = .ok (.iand, 1) := by decide +kernel
theorem dJ2_getChar_3b067_53 : decode cJ2_getChar_3b067 53 = .ok (.getstatic 63, 3) := by decide +kernel
theorem dJ2_getChar_3b067_56 : decode cJ2_getChar_3b067 56 = .ok (.ishl, 1) := by decide +kernel
theorem dJ2_getChar_3b067_57 : decode cJ2_getChar_3b067 57 = .ok (.ior, 1) := by decide +kernel
theorem dJ2_getChar_3b067_58 : decode cJ2_getChar_3b067 58 = .ok (.i2c, 1) := by decide +kernel
theorem dJ2_getChar_3b067_59 : decode cJ2_getChar_3b067 59 = .ok (.ireturn, 1) := by decide +kernel
theorem dJ2_length_9d52b_0 : decode cJ2_length_9d52b 0 = .ok (.aload_n 0, 1) := by decide +kernel
theorem dJ2_length_9d52b_1 : decode cJ2_length_9d52b 1 = .ok (.arraylength, 1) := by decide +kernel
theorem dJ2_length_9d52b_2 : decode cJ2_length_9d52b 2 = .ok (.iconst 1, 1) := by decide +kernel
theorem dJ2_length_9d52b_3 : decode cJ2_length_9d52b 3 = .ok (.ishr, 1) := by decide +kernel
theorem dJ2_length_9d52b_4 : decode cJ2_length_9d52b 4 = .ok (.ireturn, 1) := by decide +kernel
set_option maxRecDepth 20000 in
theorem ggJ2_charAt_3b067_J2_checkIndex_2214a : GoodIn wsJ2_charAt_3b067 wsJ2_checkIndex_2214a := goodIn_r _ [4, 5, 6, 3, 7, 8, 9, 10, 11, 12, 13, 14, 15, 16] (by decide +kernel) (by decide +kernel)
set_option maxRecDepth 20000 in
theorem gJ2_charAt_3b067_J2_checkIndex_2214a : GoodIn wsJ2_charAt_3b067 (va_wsS RJ2 67 yJ2_checkIndex_2214a wsJ2_checkIndex_2214a) := goodIn_app (goodIn_of _ (by decide +kernel)) ggJ2_charAt_3b067_J2_checkIndex_2214a
set_option maxRecDepth 20000 in
theorem ggJ2_charAt_3b067_J2_getChar_3b067 : GoodIn wsJ2_charAt_3b067 wsJ2_getChar_3b067 := goodIn_r _ [19, 20, 21, 22, 5, 6, 3, 7] (by decide +kernel) (by decide +kernel)
set_option maxRecDepth 20000 in
theorem gJ2_charAt_3b067_J2_getChar_3b067 : GoodIn wsJ2_charAt_3b067 (va_wsS RJ2 71 yJ2_getChar_3b067 wsJ2_getChar_3b067) := goodIn_app (goodIn_of _ (by decide +kernel)) ggJ2_charAt_3b067_J2_getChar_3b067
theorem dJ2_charAt_3b067_0 : decode cJ2_charAt_3b067 0 = .ok (.iload_n 1, 1) := by decide +kernel
theorem dJ2_charAt_3b067_1 : decode cJ2_charAt_3b067 1 = .ok (.aload_n 0, 1) := by decide +kernel
theorem dJ2_charAt_3b067_2 : decode cJ2_charAt_3b067 2 = .ok (.invokestatic 67, 3) := by decide +kernel
theorem dJ2_charAt_3b067_5 : decode cJ2_charAt_3b067 5 = .ok (.aload_n 0, 1) := by decide +kernel
theorem dJ2_charAt_3b067_6 : decode cJ2_charAt_3b067 6 = .ok (.iload_n 1, 1) := by decide +kernel
theorem dJ2_charAt_3b067_7 : decode cJ2_charAt_3b067 7 = .ok (.invokestatic 71, 3) := by decide +kernel
theorem dJ2_charAt_3b067_10 : decode cJ2_charAt_3b067 10 = .ok (.ireturn, 1) := by decide +kernel
set_option maxRecDepth 20000 in
theorem ggJ2_checkIndex_2214a_J2_length_9d52b : GoodIn wsJ2_checkIndex_2214a wsJ2_length_9d52b := goodIn_r _ [4] (by decide +kernel) (by decide +kernel)
set_option maxRecDepth 20000 in
theorem gJ2_checkIndex_2214a_J2_length_9d52b : GoodIn wsJ2_checkIndex_2214a (va_wsS RJ2 48 yJ2_length_9d52b wsJ2_length_9d52b) := goodIn_app (goodIn_of _ (by decide +kernel)) ggJ2_checkIndex_2214a_J2_length_9d52b
set_option maxRecDepth 20000 in
theorem ggJ2_checkIndex_2214a_J0_checkIndex_df160 : GoodIn wsJ2_checkIndex_2214a wsJ0_checkIndex_df160 := goodIn_r _ [8, 9, 10, 11, 12, 13] (by decide +kernel) (by decide +kernel)
set_option maxRecDepth 20000 in
theorem gJ2_checkIndex_2214a_J0_checkIndex_df160 : GoodIn wsJ2_checkIndex_2214a (va_wsS RJ2 414 yJ0_checkIndex_df160 wsJ0_checkIndex_df160) := goodIn_app (goodIn_of _ (by decide +kernel)) ggJ2_checkIndex_2214a_J0_checkIndex_df160
theorem dJ2_checkIndex_2214a_0 : decode cJ2_checkIndex_2214a 0 = .ok (.iload_n 0, 1) := by decide +kernel
theorem dJ2_checkIndex_2214a_1 : decode cJ2_checkIndex_2214a 1 = .ok (.aload_n 1, 1) := by decide +kernel
theorem dJ2_checkIndex_2214a_2 : decode cJ2_checkIndex_2214a 2 = .ok (.invokestatic 48, 3) := by decide +kernel
theorem dJ2_checkIndex_2214a_5 : decode cJ2_checkIndex_2214a 5 = .ok (.invokestatic 414, 3) := by decide +kernel
theorem dJ2_checkIndex_2214a_8 : decode cJ2_checkIndex_2214a 8 = .ok (.return_, 1) := by decide +kernel
theorem dJ7_fill_53178_0 : decode cJ7_fill_53178 0 = .ok (.iconst 0, 1) := by decide +kernel
theorem dJ7_fill_53178_1 : decode cJ7_fill_53178 1 = .ok (.istore_n 2, 1) := by decide +kernel
theorem dJ7_fill_53178_2 : decode cJ7_fill_53178 2 = .ok (.aload_n 0, 1) := by decide +kernel
theorem dJ7_fill_53178_3 : decode cJ7_fill_53178 3 = .ok (.arraylength, 1) := by decide +kernel
theorem dJ7_fill_53178_4 : decode cJ7_fill_53178 4 = .ok (.istore_n 3, 1) := by decide +kernel
theorem dJ7_fill_53178_5 : decode cJ7_fill_53178 5 = .ok (.iload_n 2, 1) := by decide +kernel
theorem dJ7_fill_53178_6 : decode cJ7_fill_53178 6 = .ok (.iload_n 3, 1) := by decide +kernel
theorem dJ7_fill_53178_7 : decode cJ7_fill_53178 7 = .ok (.if_icmp .ge 13, 3) := by decide +kernel
theorem dJ7_fill_53178_10 : decode cJ7_fill_53178 10 = .ok (.aload_n 0, 1) := by decide +kernel
theorem dJ7_fill_53178_11 : decode cJ7_fill_53178 11 = .ok (.iload_n 2, 1) := by decide +kernel
theorem dJ7_fill_53178_12 : decode cJ7_fill_53178 12 = .ok (.iload_n 1, 1) := by decide +kernel
theorem dJ7_fill_53178_13 : decode cJ7_fill_53178 13 = .ok (.iastore, 1) := by decide +kernel
theorem dJ7_fill_53178_14 : decode cJ7_fill_53178 14 = .ok (.iinc 2 1, 3) := by decide +kernel
theorem dJ7_fill_53178_17 : decode cJ7_fill_53178 17 = .ok (.goto (-12), 3) := by decide +kernel
theorem dJ7_fill_53178_20 : decode cJ7_fill_53178 20 = .ok (.return_, 1) := by decide +kernel
theorem dJ3_checkIndex_8e157_0 : decode cJ3_checkIndex_8e157 0 = .ok (.iload_n 0, 1) := by decide +kernel
theorem dJ3_checkIndex_8e157_1 : decode cJ3_checkIndex_8e157 1 = .ok (.ifCond .lt 8, 3) := by decide +kernel
theorem dJ3_checkIndex_8e157_4 : decode cJ3_checkIndex_8e157 4 = .ok (.iload_n 0, 1) := by decide +kernel
theorem dJ3_checkIndex_8e157_5 : decode cJ3_checkIndex_8e157 5 = .ok (.iload_n 1, 1) := by decide +kernel
theorem dJ3_checkIndex_8e157_6 : decode cJ3_checkIndex_8e157 6 = .ok (.if_icmp .lt 10, 3) := by decide +kernel
theorem dJ3_checkIndex_8e157_9 : decode cJ3_checkIndex_8e157 9 = .ok (.aload_n 2, 1) := by decide +kernel
theorem dJ3_checkIndex_8e157_10 : decode cJ3_checkIndex_8e157 10 = .ok (.iload_n 0, 1) := by decide +kernel
theorem dJ3_checkIndex_8e157_11 : decode cJ3_checkIndex_8e157 11 = .ok (.iload_n 1, 1) := by decide +kernel
theorem dJ3_checkIndex_8e157_12 : decode cJ3_checkIndex_8e157 12 = .ok (.invokestatic 95, 3) := by decide +kernel
theorem dJ3_checkIndex_8e157_15 : decode cJ3_checkIndex_8e157 15 = .ok (.athrow, 1) := by decide +kernel
theorem dJ3_checkIndex_8e157_16 : decode cJ3_checkIndex_8e157 16 = .ok (.iload_n 0, 1) := by decide +kernel
theorem dJ3_checkIndex_8e157_17 : decode cJ3_checkIndex_8e157 17 = .ok (.ireturn, 1) := by decide +kernel
end
section
/-! What the system's nest mates link, the tables' word of the array classes, a contract's start and end. -/
def nwF : List (String × Nat × String × String × String × String) := [("StopSetter", 85, "StopSetter$Tape", "length", "I", "StopSetter"), ("StopSetter", 105, "StopSetter$Chart", "leastCost", "I", "StopSetter"), ("StopSetter", 111, "StopSetter$Chart", "secondCost", "I", "StopSetter"), ("StopSetter", 143, "StopSetter$Chart", "lastEnd", "I", "StopSetter"), ("StopSetter", 156, "StopSetter$Grammar", "goFrom", "[I", "StopSetter"), ("StopSetter", 159, "StopSetter$Grammar", "goKind", "[I", "StopSetter"), ("StopSetter", 162, "StopSetter$Grammar", "goTo", "[I", "StopSetter"), ("StopSetter", 165, "StopSetter$Grammar", "goCost", "[I", "StopSetter"), ("StopSetter", 168, "StopSetter$Grammar", "goMark", "[I", "StopSetter"), ("StopSetter", 171, "StopSetter$Grammar", "goCount", "I", "StopSetter"), ("StopSetter", 174, "StopSetter$Grammar", "endCount", "I", "StopSetter"), ("StopSetter", 183, "StopSetter$Chart", "ready", "I", "StopSetter"), ("StopSetter$Chart", 73, "StopSetter$Grammar", "endCount", "I", "StopSetter"), ("StopSetter$Chart", 85, "StopSetter$Grammar", "goCount", "I", "StopSetter"), ("StopSetter$Chart", 98, "StopSetter$Grammar", "goCost", "[I", "StopSetter"), ("StopSetter$Reader", 54, "StopSetter$Grammar", "goCount", "I", "StopSetter"), ("StopSetter$Reader", 81, "StopSetter$Grammar", "endCount", "I", "StopSetter"), ("StopSetter$Reader", 119, "StopSetter$Tape", "length", "I", "StopSetter")]
def nwM : List (String × Nat × MethodName × String) := [(RX4, 25, yX3_init, "StopSetter"), (RX4, 41, yX1_init, "StopSetter"), (RX0, 69, yX4_quotesOf, "StopSetter"), (RX0, 78, yX4_stateOf, "StopSetter"), (RX0, 119, yX4_nodeOf, "StopSetter"), (RX1, 56, yX4_nodeOf, "StopSetter")]
def sk (dC : Nat → ClassId) (dI : Nat → Nat → Nat) (cI cZ cC cJ : ClassId) (U : State) : Prop := va_K (dC, dI) vwCl [(cI, .int), (cZ, .boolean), (cC, .char), (cJ, .long)] U ∧ (∀ q ∈ nwF, va_Nw (.fieldLinkNest q.1 q.2.1 q.2.2.1 q.2.2.2.1 q.2.2.2.2.1 q.2.2.2.2.2) U) ∧ ∀ q ∈ nwM, va_Nw (.methodLinkNest q.1 q.2.1 q.2.2.1 q.2.2.2) U
theorem sk_warm {dC : Nat → ClassId} {dI : Nat → Nat → Nat} {cI cZ cC cJ : ClassId} {s U : State} (hW : s.WarmedH U.vm) (h : sk dC dI cI cZ cC cJ s) : sk dC dI cI cZ cC cJ U :=
  ⟨va_K.moved hW.alike h.1, fun q hq => va_Nw.warmF hW (h.2.1 q hq), fun q hq => va_Nw.warmM hW (h.2.2 q hq)⟩
theorem sk_same {dC : Nat → ClassId} {dI : Nat → Nat → Nat} {cI cZ cC cJ : ClassId} {s U : State} (hv : s.vm = U.vm) (h : sk dC dI cI cZ cC cJ s) : sk dC dI cI cZ cC cJ U :=
  ⟨va_K.moved (by rw [hv]; exact Vm.Alike.refl U.vm) h.1, fun q hq => va_Nw.same rfl hv (h.2.1 q hq), fun q hq => va_Nw.same rfl hv (h.2.2 q hq)⟩
/-- a contract's start: the heap's size, its cells, the tables, the cells apart -/
def sPre (dC : Nat → ClassId) (dI : Nat → Nat → Nat) (cI cZ cC cJ : ClassId) (ws : va_W) (sz : Nat) (U : State) : Prop := U.heap.size = sz ∧ va_P (dC, dI) vwCl ws U.heap ∧ sk dC dI cI cZ cC cJ U ∧ va_D (fun _ => True) ws
theorem sPre_blind {dC : Nat → ClassId} {dI : Nat → Nat → Nat} {cI cZ cC cJ : ClassId} {ws : va_W} {sz : Nat} {av : List Value} : FrameBlind (va_Pc av (sPre dC dI cI cZ cC cJ ws sz)) := fun a U g mk h => by
  obtain ⟨h0, h1, h2, h3, h4⟩ := h
  exact ⟨h0, h1, h2, sk_same (s := U) (U := U.calling g mk a) rfl h3, h4⟩
theorem sPre_ok {dC : Nat → ClassId} {dI : Nat → Nat → Nat} {cI cZ cC cJ : ClassId} {ws : va_W} {s U : State} {H : Heap} {A : Nat → Prop} (hk : sk dC dI cI cZ cC cJ s) (hP : va_P (dC, dI) vwCl ws H) (hD : va_D A ws) (hU : U.heap = H) (hW : s.WarmedH U.vm) : sPre dC dI cI cZ cC cJ ws H.size U :=
  ⟨by rw [hU], by rw [hU]; exact hP, sk_warm hW hk, hD.weaken (fun _ _ _ _ => trivial)⟩
/-- a contract's end: its cells, apart -/
def sB (dC : Nat → ClassId) (dI : Nat → Nat → Nat) (A : Nat → Prop) (ws : va_W) (t : State) : Prop := va_P (dC, dI) vwCl ws t.heap ∧ va_D A ws
end
