section
-- ===== PART A: goes FIRST, ahead of the names: the tables' words, and 'selects' of the private methods out of them =====
/-- a private method of a class that the tables say can be made, by its rows of tables_1 -/
def lw_okq (q : MethodName × Nat) : Prop := (q.1.cls ≠ "java/lang/invoke/MethodHandle" ∧ q.1.cls ≠ "java/lang/invoke/VarHandle") ∧ Cond.instantiable q.1.cls q.2 ∈ tables_1 ∧ Cond.privateMethod q.1 ∈ tables_1 ∧ Cond.instanceMethod q.1 ∈ tables_1
theorem lw_p0 : lw_okq (⟨"HoleMask", "refuses", "(I)Z"⟩, 6) := ⟨⟨by decide +kernel, by decide +kernel⟩, List.mem_of_getElem? (i := 17) (by decide +kernel), List.mem_of_getElem? (i := 149) (by decide +kernel), List.mem_of_getElem? (i := 150) (by decide +kernel)⟩
theorem lw_p1 : lw_okq (⟨"HoleMask", "startRing", "(I)V"⟩, 6) := ⟨⟨by decide +kernel, by decide +kernel⟩, List.mem_of_getElem? (i := 17) (by decide +kernel), List.mem_of_getElem? (i := 153) (by decide +kernel), List.mem_of_getElem? (i := 154) (by decide +kernel)⟩
theorem lw_p2 : lw_okq (⟨"HoleMask$Circle", "start", "(I)V"⟩, 3) := ⟨⟨by decide +kernel, by decide +kernel⟩, List.mem_of_getElem? (i := 25) (by decide +kernel), List.mem_of_getElem? (i := 157) (by decide +kernel), List.mem_of_getElem? (i := 158) (by decide +kernel)⟩
theorem lw_p3 : lw_okq (⟨"HoleMask$Paper", "take", "(II)V"⟩, 3) := ⟨⟨by decide +kernel, by decide +kernel⟩, List.mem_of_getElem? (i := 47) (by decide +kernel), List.mem_of_getElem? (i := 171) (by decide +kernel), List.mem_of_getElem? (i := 172) (by decide +kernel)⟩
theorem lw_p4 : lw_okq (⟨"HoleMask$Paper", "write", "(II)V"⟩, 3) := ⟨⟨by decide +kernel, by decide +kernel⟩, List.mem_of_getElem? (i := 47) (by decide +kernel), List.mem_of_getElem? (i := 180) (by decide +kernel), List.mem_of_getElem? (i := 181) (by decide +kernel)⟩
theorem lw_p5 : lw_okq (⟨"HoleMask", "layFault", "(I)I"⟩, 6) := ⟨⟨by decide +kernel, by decide +kernel⟩, List.mem_of_getElem? (i := 17) (by decide +kernel), List.mem_of_getElem? (i := 188) (by decide +kernel), List.mem_of_getElem? (i := 189) (by decide +kernel)⟩
theorem lw_p6 : lw_okq (⟨"HoleMask$Paper", "read", "(I)I"⟩, 3) := ⟨⟨by decide +kernel, by decide +kernel⟩, List.mem_of_getElem? (i := 47) (by decide +kernel), List.mem_of_getElem? (i := 195) (by decide +kernel), List.mem_of_getElem? (i := 196) (by decide +kernel)⟩
theorem lw_p7 : lw_okq (⟨"HoleMask$Circle", "put", "(III)V"⟩, 3) := ⟨⟨by decide +kernel, by decide +kernel⟩, List.mem_of_getElem? (i := 25) (by decide +kernel), List.mem_of_getElem? (i := 204) (by decide +kernel), List.mem_of_getElem? (i := 205) (by decide +kernel)⟩
theorem lw_p8 : lw_okq (⟨"HoleMask$Paper", "drop", "()V"⟩, 3) := ⟨⟨by decide +kernel, by decide +kernel⟩, List.mem_of_getElem? (i := 47) (by decide +kernel), List.mem_of_getElem? (i := 208) (by decide +kernel), List.mem_of_getElem? (i := 209) (by decide +kernel)⟩
theorem lw_p9 : lw_okq (⟨"HoleMask", "forgetBackOf", "(I)V"⟩, 6) := ⟨⟨by decide +kernel, by decide +kernel⟩, List.mem_of_getElem? (i := 17) (by decide +kernel), List.mem_of_getElem? (i := 212) (by decide +kernel), List.mem_of_getElem? (i := 213) (by decide +kernel)⟩
theorem lw_p10 : lw_okq (⟨"HoleMask$Circle", "has", "(I)Z"⟩, 3) := ⟨⟨by decide +kernel, by decide +kernel⟩, List.mem_of_getElem? (i := 25) (by decide +kernel), List.mem_of_getElem? (i := 220) (by decide +kernel), List.mem_of_getElem? (i := 221) (by decide +kernel)⟩
theorem lw_p11 : lw_okq (⟨"HoleMask$Circle", "tally", "(II)I"⟩, 3) := ⟨⟨by decide +kernel, by decide +kernel⟩, List.mem_of_getElem? (i := 25) (by decide +kernel), List.mem_of_getElem? (i := 233) (by decide +kernel), List.mem_of_getElem? (i := 234) (by decide +kernel)⟩
theorem lw_p12 : lw_okq (⟨"HoleMask$Circle", "firstOff", "()I"⟩, 3) := ⟨⟨by decide +kernel, by decide +kernel⟩, List.mem_of_getElem? (i := 25) (by decide +kernel), List.mem_of_getElem? (i := 237) (by decide +kernel), List.mem_of_getElem? (i := 238) (by decide +kernel)⟩
theorem lw_p13 : lw_okq (⟨"HoleMask$Circle", "meetsAt", "(I)I"⟩, 3) := ⟨⟨by decide +kernel, by decide +kernel⟩, List.mem_of_getElem? (i := 25) (by decide +kernel), List.mem_of_getElem? (i := 241) (by decide +kernel), List.mem_of_getElem? (i := 242) (by decide +kernel)⟩
theorem lw_p14 : lw_okq (⟨"HoleMask$Circle", "throughMask", "([II)I"⟩, 3) := ⟨⟨by decide +kernel, by decide +kernel⟩, List.mem_of_getElem? (i := 25) (by decide +kernel), List.mem_of_getElem? (i := 245) (by decide +kernel), List.mem_of_getElem? (i := 246) (by decide +kernel)⟩
theorem lw_p15 : lw_okq (⟨"HoleMask$Circle", "wrap", "(I)I"⟩, 3) := ⟨⟨by decide +kernel, by decide +kernel⟩, List.mem_of_getElem? (i := 25) (by decide +kernel), List.mem_of_getElem? (i := 249) (by decide +kernel), List.mem_of_getElem? (i := 250) (by decide +kernel)⟩
def lw_privs_1 : List (MethodName × Nat) := [(⟨"HoleMask", "refuses", "(I)Z"⟩, 6), (⟨"HoleMask", "startRing", "(I)V"⟩, 6), (⟨"HoleMask$Circle", "start", "(I)V"⟩, 3), (⟨"HoleMask$Paper", "take", "(II)V"⟩, 3), (⟨"HoleMask$Paper", "write", "(II)V"⟩, 3), (⟨"HoleMask", "layFault", "(I)I"⟩, 6), (⟨"HoleMask$Paper", "read", "(I)I"⟩, 3), (⟨"HoleMask$Circle", "put", "(III)V"⟩, 3), (⟨"HoleMask$Paper", "drop", "()V"⟩, 3), (⟨"HoleMask", "forgetBackOf", "(I)V"⟩, 6), (⟨"HoleMask$Circle", "has", "(I)Z"⟩, 3), (⟨"HoleMask$Circle", "tally", "(II)I"⟩, 3), (⟨"HoleMask$Circle", "firstOff", "()I"⟩, 3), (⟨"HoleMask$Circle", "meetsAt", "(I)I"⟩, 3), (⟨"HoleMask$Circle", "throughMask", "([II)I"⟩, 3), (⟨"HoleMask$Circle", "wrap", "(I)I"⟩, 3)]
theorem lw_r1 : ∀ q ∈ lw_privs_1, lw_okq q := List.forall_mem_cons.mpr ⟨lw_p0, List.forall_mem_cons.mpr ⟨lw_p1, List.forall_mem_cons.mpr ⟨lw_p2, List.forall_mem_cons.mpr ⟨lw_p3, List.forall_mem_cons.mpr ⟨lw_p4, List.forall_mem_cons.mpr ⟨lw_p5, List.forall_mem_cons.mpr ⟨lw_p6, List.forall_mem_cons.mpr ⟨lw_p7, List.forall_mem_cons.mpr ⟨lw_p8, List.forall_mem_cons.mpr ⟨lw_p9, List.forall_mem_cons.mpr ⟨lw_p10, List.forall_mem_cons.mpr ⟨lw_p11, List.forall_mem_cons.mpr ⟨lw_p12, List.forall_mem_cons.mpr ⟨lw_p13, List.forall_mem_cons.mpr ⟨lw_p14, List.forall_mem_cons.mpr ⟨lw_p15, fun _ h => absurd h List.not_mem_nil⟩⟩⟩⟩⟩⟩⟩⟩⟩⟩⟩⟩⟩⟩⟩⟩
theorem lw_p16 : lw_okq (⟨"HoleMask$Circle", "shadowAt", "(I)I"⟩, 3) := ⟨⟨by decide +kernel, by decide +kernel⟩, List.mem_of_getElem? (i := 25) (by decide +kernel), List.mem_of_getElem? (i := 257) (by decide +kernel), List.mem_of_getElem? (i := 258) (by decide +kernel)⟩
theorem lw_p17 : lw_okq (⟨"HoleMask$Circle", "turnMask", "(I)V"⟩, 3) := ⟨⟨by decide +kernel, by decide +kernel⟩, List.mem_of_getElem? (i := 25) (by decide +kernel), List.mem_of_getElem? (i := 278) (by decide +kernel), List.mem_of_getElem? (i := 279) (by decide +kernel)⟩
theorem lw_p18 : lw_okq (⟨"HoleMask$Circle", "get", "(II)I"⟩, 3) := ⟨⟨by decide +kernel, by decide +kernel⟩, List.mem_of_getElem? (i := 25) (by decide +kernel), List.mem_of_getElem? (i := 292) (by decide +kernel), List.mem_of_getElem? (i := 293) (by decide +kernel)⟩
theorem lw_p19 : lw_okq (⟨"HoleMask", "canFold", "(IIII)Z"⟩, 6) := ⟨⟨by decide +kernel, by decide +kernel⟩, List.mem_of_getElem? (i := 17) (by decide +kernel), List.mem_of_getElem? (i := 300) (by decide +kernel), List.mem_of_getElem? (i := 301) (by decide +kernel)⟩
theorem lw_p20 : lw_okq (⟨"HoleMask", "smallRingFault", "()I"⟩, 6) := ⟨⟨by decide +kernel, by decide +kernel⟩, List.mem_of_getElem? (i := 17) (by decide +kernel), List.mem_of_getElem? (i := 353) (by decide +kernel), List.mem_of_getElem? (i := 354) (by decide +kernel)⟩
theorem lw_p21 : lw_okq (⟨"HoleMask$Undoer", "invert", "(LHoleMask$Circle;)Z"⟩, 5) := ⟨⟨by decide +kernel, by decide +kernel⟩, List.mem_of_getElem? (i := 65) (by decide +kernel), List.mem_of_getElem? (i := 358) (by decide +kernel), List.mem_of_getElem? (i := 359) (by decide +kernel)⟩
theorem lw_p22 : lw_okq (⟨"HoleMask$Undoer", "reduce", "(LHoleMask$Circle;)I"⟩, 5) := ⟨⟨by decide +kernel, by decide +kernel⟩, List.mem_of_getElem? (i := 65) (by decide +kernel), List.mem_of_getElem? (i := 365) (by decide +kernel), List.mem_of_getElem? (i := 366) (by decide +kernel)⟩
theorem lw_p23 : lw_okq (⟨"HoleMask$Undoer", "fillCells", "(LHoleMask$Circle;I)V"⟩, 5) := ⟨⟨by decide +kernel, by decide +kernel⟩, List.mem_of_getElem? (i := 65) (by decide +kernel), List.mem_of_getElem? (i := 369) (by decide +kernel), List.mem_of_getElem? (i := 370) (by decide +kernel)⟩
theorem lw_p24 : lw_okq (⟨"HoleMask$Circle", "share", "(II)I"⟩, 3) := ⟨⟨by decide +kernel, by decide +kernel⟩, List.mem_of_getElem? (i := 25) (by decide +kernel), List.mem_of_getElem? (i := 373) (by decide +kernel), List.mem_of_getElem? (i := 374) (by decide +kernel)⟩
theorem lw_p25 : lw_okq (⟨"HoleMask$Undoer", "rowToLead", "(II)I"⟩, 5) := ⟨⟨by decide +kernel, by decide +kernel⟩, List.mem_of_getElem? (i := 65) (by decide +kernel), List.mem_of_getElem? (i := 377) (by decide +kernel), List.mem_of_getElem? (i := 378) (by decide +kernel)⟩
theorem lw_p26 : lw_okq (⟨"HoleMask$Undoer", "swapCells", "(III)V"⟩, 5) := ⟨⟨by decide +kernel, by decide +kernel⟩, List.mem_of_getElem? (i := 65) (by decide +kernel), List.mem_of_getElem? (i := 381) (by decide +kernel), List.mem_of_getElem? (i := 382) (by decide +kernel)⟩
theorem lw_p27 : lw_okq (⟨"HoleMask$Undoer", "clearColumn", "(IIJ)V"⟩, 5) := ⟨⟨by decide +kernel, by decide +kernel⟩, List.mem_of_getElem? (i := 65) (by decide +kernel), List.mem_of_getElem? (i := 385) (by decide +kernel), List.mem_of_getElem? (i := 386) (by decide +kernel)⟩
theorem lw_p28 : lw_okq (⟨"HoleMask$Undoer", "backAt", "(I)J"⟩, 5) := ⟨⟨by decide +kernel, by decide +kernel⟩, List.mem_of_getElem? (i := 65) (by decide +kernel), List.mem_of_getElem? (i := 398) (by decide +kernel), List.mem_of_getElem? (i := 399) (by decide +kernel)⟩
theorem lw_p29 : lw_okq (⟨"HoleMask$Undoer", "noisePart", "(ZI)J"⟩, 5) := ⟨⟨by decide +kernel, by decide +kernel⟩, List.mem_of_getElem? (i := 65) (by decide +kernel), List.mem_of_getElem? (i := 406) (by decide +kernel), List.mem_of_getElem? (i := 407) (by decide +kernel)⟩
theorem lw_p30 : lw_okq (⟨"HoleMask$Undoer", "showLost", "(LHoleMask$Circle;I)V"⟩, 5) := ⟨⟨by decide +kernel, by decide +kernel⟩, List.mem_of_getElem? (i := 65) (by decide +kernel), List.mem_of_getElem? (i := 419) (by decide +kernel), List.mem_of_getElem? (i := 420) (by decide +kernel)⟩
theorem lw_p31 : lw_okq (⟨"HoleMask$Undoer", "showSolved", "(LHoleMask$Circle;)Z"⟩, 5) := ⟨⟨by decide +kernel, by decide +kernel⟩, List.mem_of_getElem? (i := 65) (by decide +kernel), List.mem_of_getElem? (i := 428) (by decide +kernel), List.mem_of_getElem? (i := 429) (by decide +kernel)⟩
def lw_privs_2 : List (MethodName × Nat) := [(⟨"HoleMask$Circle", "shadowAt", "(I)I"⟩, 3), (⟨"HoleMask$Circle", "turnMask", "(I)V"⟩, 3), (⟨"HoleMask$Circle", "get", "(II)I"⟩, 3), (⟨"HoleMask", "canFold", "(IIII)Z"⟩, 6), (⟨"HoleMask", "smallRingFault", "()I"⟩, 6), (⟨"HoleMask$Undoer", "invert", "(LHoleMask$Circle;)Z"⟩, 5), (⟨"HoleMask$Undoer", "reduce", "(LHoleMask$Circle;)I"⟩, 5), (⟨"HoleMask$Undoer", "fillCells", "(LHoleMask$Circle;I)V"⟩, 5), (⟨"HoleMask$Circle", "share", "(II)I"⟩, 3), (⟨"HoleMask$Undoer", "rowToLead", "(II)I"⟩, 5), (⟨"HoleMask$Undoer", "swapCells", "(III)V"⟩, 5), (⟨"HoleMask$Undoer", "clearColumn", "(IIJ)V"⟩, 5), (⟨"HoleMask$Undoer", "backAt", "(I)J"⟩, 5), (⟨"HoleMask$Undoer", "noisePart", "(ZI)J"⟩, 5), (⟨"HoleMask$Undoer", "showLost", "(LHoleMask$Circle;I)V"⟩, 5), (⟨"HoleMask$Undoer", "showSolved", "(LHoleMask$Circle;)Z"⟩, 5)]
theorem lw_r2 : ∀ q ∈ lw_privs_2, lw_okq q := List.forall_mem_cons.mpr ⟨lw_p16, List.forall_mem_cons.mpr ⟨lw_p17, List.forall_mem_cons.mpr ⟨lw_p18, List.forall_mem_cons.mpr ⟨lw_p19, List.forall_mem_cons.mpr ⟨lw_p20, List.forall_mem_cons.mpr ⟨lw_p21, List.forall_mem_cons.mpr ⟨lw_p22, List.forall_mem_cons.mpr ⟨lw_p23, List.forall_mem_cons.mpr ⟨lw_p24, List.forall_mem_cons.mpr ⟨lw_p25, List.forall_mem_cons.mpr ⟨lw_p26, List.forall_mem_cons.mpr ⟨lw_p27, List.forall_mem_cons.mpr ⟨lw_p28, List.forall_mem_cons.mpr ⟨lw_p29, List.forall_mem_cons.mpr ⟨lw_p30, List.forall_mem_cons.mpr ⟨lw_p31, fun _ h => absurd h List.not_mem_nil⟩⟩⟩⟩⟩⟩⟩⟩⟩⟩⟩⟩⟩⟩⟩⟩
theorem lw_p32 : lw_okq (⟨"HoleMask$Finder", "search", "(LHoleMask$Circle;I)V"⟩, 4) := ⟨⟨by decide +kernel, by decide +kernel⟩, List.mem_of_getElem? (i := 92) (by decide +kernel), List.mem_of_getElem? (i := 443) (by decide +kernel), List.mem_of_getElem? (i := 444) (by decide +kernel)⟩
theorem lw_p33 : lw_okq (⟨"HoleMask$Finder", "openWindows", "(LHoleMask$Circle;III)V"⟩, 4) := ⟨⟨by decide +kernel, by decide +kernel⟩, List.mem_of_getElem? (i := 92) (by decide +kernel), List.mem_of_getElem? (i := 447) (by decide +kernel), List.mem_of_getElem? (i := 448) (by decide +kernel)⟩
theorem lw_p34 : lw_okq (⟨"HoleMask$Finder", "holds", "(II)Z"⟩, 4) := ⟨⟨by decide +kernel, by decide +kernel⟩, List.mem_of_getElem? (i := 92) (by decide +kernel), List.mem_of_getElem? (i := 463) (by decide +kernel), List.mem_of_getElem? (i := 464) (by decide +kernel)⟩
theorem lw_p35 : lw_okq (⟨"HoleMask$Finder", "tell", "(IIII)V"⟩, 4) := ⟨⟨by decide +kernel, by decide +kernel⟩, List.mem_of_getElem? (i := 92) (by decide +kernel), List.mem_of_getElem? (i := 467) (by decide +kernel), List.mem_of_getElem? (i := 468) (by decide +kernel)⟩
theorem lw_p36 : lw_okq (⟨"HoleMask$Finder", "searchPairs", "(LHoleMask$Circle;II)V"⟩, 4) := ⟨⟨by decide +kernel, by decide +kernel⟩, List.mem_of_getElem? (i := 92) (by decide +kernel), List.mem_of_getElem? (i := 471) (by decide +kernel), List.mem_of_getElem? (i := 472) (by decide +kernel)⟩
theorem lw_p37 : lw_okq (⟨"HoleMask$Finder", "tellSeconds", "(III)V"⟩, 4) := ⟨⟨by decide +kernel, by decide +kernel⟩, List.mem_of_getElem? (i := 92) (by decide +kernel), List.mem_of_getElem? (i := 475) (by decide +kernel), List.mem_of_getElem? (i := 476) (by decide +kernel)⟩
theorem lw_p38 : lw_okq (⟨"HoleMask$Finder", "part", "(II)I"⟩, 4) := ⟨⟨by decide +kernel, by decide +kernel⟩, List.mem_of_getElem? (i := 92) (by decide +kernel), List.mem_of_getElem? (i := 483) (by decide +kernel), List.mem_of_getElem? (i := 484) (by decide +kernel)⟩
theorem lw_p39 : lw_okq (⟨"HoleMask$Board", "makeDoubled", "(I)V"⟩, 2) := ⟨⟨by decide +kernel, by decide +kernel⟩, List.mem_of_getElem? (i := 112) (by decide +kernel), List.mem_of_getElem? (i := 491) (by decide +kernel), List.mem_of_getElem? (i := 492) (by decide +kernel)⟩
theorem lw_p40 : lw_okq (⟨"HoleMask$Board", "makeByRests", "(I)V"⟩, 2) := ⟨⟨by decide +kernel, by decide +kernel⟩, List.mem_of_getElem? (i := 112) (by decide +kernel), List.mem_of_getElem? (i := 496) (by decide +kernel), List.mem_of_getElem? (i := 497) (by decide +kernel)⟩
theorem lw_p41 : lw_okq (⟨"HoleMask$Board", "doubleUp", "()V"⟩, 2) := ⟨⟨by decide +kernel, by decide +kernel⟩, List.mem_of_getElem? (i := 112) (by decide +kernel), List.mem_of_getElem? (i := 505) (by decide +kernel), List.mem_of_getElem? (i := 506) (by decide +kernel)⟩
theorem lw_p42 : lw_okq (⟨"HoleMask", "rowsFault", "(II)I"⟩, 6) := ⟨⟨by decide +kernel, by decide +kernel⟩, List.mem_of_getElem? (i := 17) (by decide +kernel), List.mem_of_getElem? (i := 516) (by decide +kernel), List.mem_of_getElem? (i := 517) (by decide +kernel)⟩
theorem lw_p43 : lw_okq (⟨"HoleMask$Board", "has", "(I)Z"⟩, 2) := ⟨⟨by decide +kernel, by decide +kernel⟩, List.mem_of_getElem? (i := 112) (by decide +kernel), List.mem_of_getElem? (i := 520) (by decide +kernel), List.mem_of_getElem? (i := 521) (by decide +kernel)⟩
theorem lw_p44 : lw_okq (⟨"HoleMask$Board", "swapRows", "(II)V"⟩, 2) := ⟨⟨by decide +kernel, by decide +kernel⟩, List.mem_of_getElem? (i := 112) (by decide +kernel), List.mem_of_getElem? (i := 524) (by decide +kernel), List.mem_of_getElem? (i := 525) (by decide +kernel)⟩
theorem lw_p45 : lw_okq (⟨"HoleMask$Board", "signAt", "(II)I"⟩, 2) := ⟨⟨by decide +kernel, by decide +kernel⟩, List.mem_of_getElem? (i := 112) (by decide +kernel), List.mem_of_getElem? (i := 532) (by decide +kernel), List.mem_of_getElem? (i := 533) (by decide +kernel)⟩
theorem lw_p46 : lw_okq (⟨"HoleMask$Board", "rowProduct", "(II)I"⟩, 2) := ⟨⟨by decide +kernel, by decide +kernel⟩, List.mem_of_getElem? (i := 112) (by decide +kernel), List.mem_of_getElem? (i := 540) (by decide +kernel), List.mem_of_getElem? (i := 541) (by decide +kernel)⟩
theorem lw_p47 : lw_okq (⟨"java/lang/Throwable", "fillInStackTrace", "(I)Ljava/lang/Throwable;"⟩, 6) := ⟨⟨by decide +kernel, by decide +kernel⟩, List.mem_of_getElem? (i := 597) (by decide +kernel), List.mem_of_getElem? (i := 595) (by decide +kernel), List.mem_of_getElem? (i := 596) (by decide +kernel)⟩
def lw_privs_3 : List (MethodName × Nat) := [(⟨"HoleMask$Finder", "search", "(LHoleMask$Circle;I)V"⟩, 4), (⟨"HoleMask$Finder", "openWindows", "(LHoleMask$Circle;III)V"⟩, 4), (⟨"HoleMask$Finder", "holds", "(II)Z"⟩, 4), (⟨"HoleMask$Finder", "tell", "(IIII)V"⟩, 4), (⟨"HoleMask$Finder", "searchPairs", "(LHoleMask$Circle;II)V"⟩, 4), (⟨"HoleMask$Finder", "tellSeconds", "(III)V"⟩, 4), (⟨"HoleMask$Finder", "part", "(II)I"⟩, 4), (⟨"HoleMask$Board", "makeDoubled", "(I)V"⟩, 2), (⟨"HoleMask$Board", "makeByRests", "(I)V"⟩, 2), (⟨"HoleMask$Board", "doubleUp", "()V"⟩, 2), (⟨"HoleMask", "rowsFault", "(II)I"⟩, 6), (⟨"HoleMask$Board", "has", "(I)Z"⟩, 2), (⟨"HoleMask$Board", "swapRows", "(II)V"⟩, 2), (⟨"HoleMask$Board", "signAt", "(II)I"⟩, 2), (⟨"HoleMask$Board", "rowProduct", "(II)I"⟩, 2), (⟨"java/lang/Throwable", "fillInStackTrace", "(I)Ljava/lang/Throwable;"⟩, 6)]
theorem lw_r3 : ∀ q ∈ lw_privs_3, lw_okq q := List.forall_mem_cons.mpr ⟨lw_p32, List.forall_mem_cons.mpr ⟨lw_p33, List.forall_mem_cons.mpr ⟨lw_p34, List.forall_mem_cons.mpr ⟨lw_p35, List.forall_mem_cons.mpr ⟨lw_p36, List.forall_mem_cons.mpr ⟨lw_p37, List.forall_mem_cons.mpr ⟨lw_p38, List.forall_mem_cons.mpr ⟨lw_p39, List.forall_mem_cons.mpr ⟨lw_p40, List.forall_mem_cons.mpr ⟨lw_p41, List.forall_mem_cons.mpr ⟨lw_p42, List.forall_mem_cons.mpr ⟨lw_p43, List.forall_mem_cons.mpr ⟨lw_p44, List.forall_mem_cons.mpr ⟨lw_p45, List.forall_mem_cons.mpr ⟨lw_p46, List.forall_mem_cons.mpr ⟨lw_p47, fun _ h => absurd h List.not_mem_nil⟩⟩⟩⟩⟩⟩⟩⟩⟩⟩⟩⟩⟩⟩⟩⟩
theorem lw_p48 : lw_okq (⟨"HoleMaskModel", "start", "()V"⟩, 21) := ⟨⟨by decide +kernel, by decide +kernel⟩, List.mem_of_getElem? (i := 628) (by decide +kernel), List.mem_of_getElem? (i := 707) (by decide +kernel), List.mem_of_getElem? (i := 708) (by decide +kernel)⟩
theorem lw_p49 : lw_okq (⟨"HoleMaskModel", "not", "(I)Z"⟩, 21) := ⟨⟨by decide +kernel, by decide +kernel⟩, List.mem_of_getElem? (i := 628) (by decide +kernel), List.mem_of_getElem? (i := 711) (by decide +kernel), List.mem_of_getElem? (i := 712) (by decide +kernel)⟩
theorem lw_p50 : lw_okq (⟨"HoleMaskModel", "begin", "(I)V"⟩, 21) := ⟨⟨by decide +kernel, by decide +kernel⟩, List.mem_of_getElem? (i := 628) (by decide +kernel), List.mem_of_getElem? (i := 715) (by decide +kernel), List.mem_of_getElem? (i := 716) (by decide +kernel)⟩
theorem lw_p51 : lw_okq (⟨"HoleMaskModel", "no", "(I)I"⟩, 21) := ⟨⟨by decide +kernel, by decide +kernel⟩, List.mem_of_getElem? (i := 628) (by decide +kernel), List.mem_of_getElem? (i := 723) (by decide +kernel), List.mem_of_getElem? (i := 724) (by decide +kernel)⟩
theorem lw_p52 : lw_okq (⟨"HoleMaskModel", "put", "(III)V"⟩, 21) := ⟨⟨by decide +kernel, by decide +kernel⟩, List.mem_of_getElem? (i := 628) (by decide +kernel), List.mem_of_getElem? (i := 739) (by decide +kernel), List.mem_of_getElem? (i := 740) (by decide +kernel)⟩
theorem lw_p53 : lw_okq (⟨"HoleMaskModel", "isPlace", "(I)Z"⟩, 21) := ⟨⟨by decide +kernel, by decide +kernel⟩, List.mem_of_getElem? (i := 628) (by decide +kernel), List.mem_of_getElem? (i := 747) (by decide +kernel), List.mem_of_getElem? (i := 748) (by decide +kernel)⟩
theorem lw_p54 : lw_okq (⟨"HoleMaskModel", "firstOff", "()I"⟩, 21) := ⟨⟨by decide +kernel, by decide +kernel⟩, List.mem_of_getElem? (i := 628) (by decide +kernel), List.mem_of_getElem? (i := 763) (by decide +kernel), List.mem_of_getElem? (i := 764) (by decide +kernel)⟩
theorem lw_p55 : lw_okq (⟨"HoleMaskModel", "meetsAt", "(I)I"⟩, 21) := ⟨⟨by decide +kernel, by decide +kernel⟩, List.mem_of_getElem? (i := 628) (by decide +kernel), List.mem_of_getElem? (i := 767) (by decide +kernel), List.mem_of_getElem? (i := 768) (by decide +kernel)⟩
theorem lw_p56 : lw_okq (⟨"HoleMaskModel", "shadowAt", "(I)I"⟩, 21) := ⟨⟨by decide +kernel, by decide +kernel⟩, List.mem_of_getElem? (i := 628) (by decide +kernel), List.mem_of_getElem? (i := 775) (by decide +kernel), List.mem_of_getElem? (i := 776) (by decide +kernel)⟩
theorem lw_p57 : lw_okq (⟨"HoleMaskModel", "holes", "()I"⟩, 21) := ⟨⟨by decide +kernel, by decide +kernel⟩, List.mem_of_getElem? (i := 628) (by decide +kernel), List.mem_of_getElem? (i := 816) (by decide +kernel), List.mem_of_getElem? (i := 817) (by decide +kernel)⟩
theorem lw_p58 : lw_okq (⟨"HoleMaskModel", "round", "(II[II)I"⟩, 21) := ⟨⟨by decide +kernel, by decide +kernel⟩, List.mem_of_getElem? (i := 628) (by decide +kernel), List.mem_of_getElem? (i := 828) (by decide +kernel), List.mem_of_getElem? (i := 829) (by decide +kernel)⟩
theorem lw_p59 : lw_okq (⟨"HoleMaskModel", "solveBack", "()Z"⟩, 21) := ⟨⟨by decide +kernel, by decide +kernel⟩, List.mem_of_getElem? (i := 628) (by decide +kernel), List.mem_of_getElem? (i := 837) (by decide +kernel), List.mem_of_getElem? (i := 838) (by decide +kernel)⟩
theorem lw_p60 : lw_okq (⟨"HoleMaskModel", "down", "(III)I"⟩, 21) := ⟨⟨by decide +kernel, by decide +kernel⟩, List.mem_of_getElem? (i := 628) (by decide +kernel), List.mem_of_getElem? (i := 841) (by decide +kernel), List.mem_of_getElem? (i := 842) (by decide +kernel)⟩
theorem lw_p61 : lw_okq (⟨"HoleMaskModel", "layShadow", "(ZII)I"⟩, 21) := ⟨⟨by decide +kernel, by decide +kernel⟩, List.mem_of_getElem? (i := 628) (by decide +kernel), List.mem_of_getElem? (i := 860) (by decide +kernel), List.mem_of_getElem? (i := 861) (by decide +kernel)⟩
theorem lw_p62 : lw_okq (⟨"HoleMaskModel", "fits", "(IIIII)Z"⟩, 21) := ⟨⟨by decide +kernel, by decide +kernel⟩, List.mem_of_getElem? (i := 628) (by decide +kernel), List.mem_of_getElem? (i := 882) (by decide +kernel), List.mem_of_getElem? (i := 883) (by decide +kernel)⟩
theorem lw_p63 : lw_okq (⟨"HoleMaskModel", "note", "(IIII)V"⟩, 21) := ⟨⟨by decide +kernel, by decide +kernel⟩, List.mem_of_getElem? (i := 628) (by decide +kernel), List.mem_of_getElem? (i := 886) (by decide +kernel), List.mem_of_getElem? (i := 887) (by decide +kernel)⟩
def lw_privs_4 : List (MethodName × Nat) := [(⟨"HoleMaskModel", "start", "()V"⟩, 21), (⟨"HoleMaskModel", "not", "(I)Z"⟩, 21), (⟨"HoleMaskModel", "begin", "(I)V"⟩, 21), (⟨"HoleMaskModel", "no", "(I)I"⟩, 21), (⟨"HoleMaskModel", "put", "(III)V"⟩, 21), (⟨"HoleMaskModel", "isPlace", "(I)Z"⟩, 21), (⟨"HoleMaskModel", "firstOff", "()I"⟩, 21), (⟨"HoleMaskModel", "meetsAt", "(I)I"⟩, 21), (⟨"HoleMaskModel", "shadowAt", "(I)I"⟩, 21), (⟨"HoleMaskModel", "holes", "()I"⟩, 21), (⟨"HoleMaskModel", "round", "(II[II)I"⟩, 21), (⟨"HoleMaskModel", "solveBack", "()Z"⟩, 21), (⟨"HoleMaskModel", "down", "(III)I"⟩, 21), (⟨"HoleMaskModel", "layShadow", "(ZII)I"⟩, 21), (⟨"HoleMaskModel", "fits", "(IIIII)Z"⟩, 21), (⟨"HoleMaskModel", "note", "(IIII)V"⟩, 21)]
theorem lw_r4 : ∀ q ∈ lw_privs_4, lw_okq q := List.forall_mem_cons.mpr ⟨lw_p48, List.forall_mem_cons.mpr ⟨lw_p49, List.forall_mem_cons.mpr ⟨lw_p50, List.forall_mem_cons.mpr ⟨lw_p51, List.forall_mem_cons.mpr ⟨lw_p52, List.forall_mem_cons.mpr ⟨lw_p53, List.forall_mem_cons.mpr ⟨lw_p54, List.forall_mem_cons.mpr ⟨lw_p55, List.forall_mem_cons.mpr ⟨lw_p56, List.forall_mem_cons.mpr ⟨lw_p57, List.forall_mem_cons.mpr ⟨lw_p58, List.forall_mem_cons.mpr ⟨lw_p59, List.forall_mem_cons.mpr ⟨lw_p60, List.forall_mem_cons.mpr ⟨lw_p61, List.forall_mem_cons.mpr ⟨lw_p62, List.forall_mem_cons.mpr ⟨lw_p63, fun _ h => absurd h List.not_mem_nil⟩⟩⟩⟩⟩⟩⟩⟩⟩⟩⟩⟩⟩⟩⟩⟩
theorem lw_p64 : lw_okq (⟨"HoleMaskModel", "isRow", "(I)Z"⟩, 21) := ⟨⟨by decide +kernel, by decide +kernel⟩, List.mem_of_getElem? (i := 628) (by decide +kernel), List.mem_of_getElem? (i := 906) (by decide +kernel), List.mem_of_getElem? (i := 907) (by decide +kernel)⟩
def lw_privs_5 : List (MethodName × Nat) := [(⟨"HoleMaskModel", "isRow", "(I)Z"⟩, 21)]
theorem lw_r5 : ∀ q ∈ lw_privs_5, lw_okq q := List.forall_mem_cons.mpr ⟨lw_p64, fun _ h => absurd h List.not_mem_nil⟩
def lw_privs : List (MethodName × Nat) := lw_privs_1 ++ (lw_privs_2 ++ (lw_privs_3 ++ (lw_privs_4 ++ (lw_privs_5))))
def lw_tbl : List Cond := k2_sels lw_privs ++ tables_1
theorem lw_privs_ok : ∀ q ∈ lw_privs, lw_okq q := by
  show ∀ q ∈ lw_privs_1 ++ (lw_privs_2 ++ (lw_privs_3 ++ (lw_privs_4 ++ (lw_privs_5)))), lw_okq q
  exact List.forall_mem_append.mpr ⟨lw_r1, List.forall_mem_append.mpr ⟨lw_r2, List.forall_mem_append.mpr ⟨lw_r3, List.forall_mem_append.mpr ⟨lw_r4, lw_r5⟩⟩⟩⟩
end
section
def RX0 : String := "HoleMask$Board"
def TX0 : u_T := fun k => match k with
  | 0 => ("HoleMask$Board", "rows", "[I", true)
  | _ => ("HoleMask$Board", "size", "I", false)
def tyX0 : Nat → FieldType := fun k => match k with
  | 0 => .array .int
  | _ => .int
theorem nmX0 : ∀ a, a < 2 → ∀ b, b < 2 → a ≠ b → (TX0 a).2.1 ≠ (TX0 b).2.1 := by decide +kernel
theorem tyX0_ok : ∀ k, k < 2 → parseFieldDescriptor (TX0 k).2.2.1 = some (tyX0 k) := by decide +kernel
abbrev cX0_init : ByteArray := prog_2_method_1_code
def yX0_init : MethodName := ⟨RX0, "<init>", "()V"⟩
abbrev cX0_has : ByteArray := prog_2_method_2_code
def yX0_has : MethodName := ⟨RX0, "has", "(I)Z"⟩
abbrev cX0_makeDoubled : ByteArray := prog_2_method_3_code
def yX0_makeDoubled : MethodName := ⟨RX0, "makeDoubled", "(I)V"⟩
abbrev cX0_makeByRests : ByteArray := prog_2_method_4_code
def yX0_makeByRests : MethodName := ⟨RX0, "makeByRests", "(I)V"⟩
abbrev cX0_doubleUp : ByteArray := prog_2_method_5_code
def yX0_doubleUp : MethodName := ⟨RX0, "doubleUp", "()V"⟩
abbrev cX0_allColumns : ByteArray := prog_2_method_6_code
def yX0_allColumns : MethodName := ⟨RX0, "allColumns", "(I)I"⟩
abbrev cX0_swapRows : ByteArray := prog_2_method_7_code
def yX0_swapRows : MethodName := ⟨RX0, "swapRows", "(II)V"⟩
abbrev cX0_signAt : ByteArray := prog_2_method_8_code
def yX0_signAt : MethodName := ⟨RX0, "signAt", "(II)I"⟩
abbrev cX0_rowProduct : ByteArray := prog_2_method_9_code
def yX0_rowProduct : MethodName := ⟨RX0, "rowProduct", "(II)I"⟩
def RX1 : String := "HoleMask$Circle"
def TX1 : u_T := fun k => match k with
  | 0 => ("HoleMask$Circle", "rows", "[[I", true)
  | 1 => ("HoleMask$Circle", "turned", "[I", true)
  | _ => ("HoleMask$Circle", "n", "I", false)
def tyX1 : Nat → FieldType := fun k => match k with
  | 0 => .array (.array .int)
  | 1 => .array .int
  | _ => .int
theorem nmX1 : ∀ a, a < 3 → ∀ b, b < 3 → a ≠ b → (TX1 a).2.1 ≠ (TX1 b).2.1 := by decide +kernel
theorem tyX1_ok : ∀ k, k < 3 → parseFieldDescriptor (TX1 k).2.2.1 = some (tyX1 k) := by decide +kernel
abbrev cX1_init : ByteArray := prog_3_method_1_code
def yX1_init : MethodName := ⟨RX1, "<init>", "()V"⟩
abbrev cX1_isRow : ByteArray := prog_3_method_2_code
def yX1_isRow : MethodName := ⟨RX1, "isRow", "(I)Z"⟩
abbrev cX1_fits : ByteArray := prog_3_method_3_code
def yX1_fits : MethodName := ⟨RX1, "fits", "(II)Z"⟩
abbrev cX1_start : ByteArray := prog_3_method_4_code
def yX1_start : MethodName := ⟨RX1, "start", "(I)V"⟩
abbrev cX1_has : ByteArray := prog_3_method_5_code
def yX1_has : MethodName := ⟨RX1, "has", "(I)Z"⟩
abbrev cX1_get : ByteArray := prog_3_method_6_code
def yX1_get : MethodName := ⟨RX1, "get", "(II)I"⟩
abbrev cX1_put : ByteArray := prog_3_method_7_code
def yX1_put : MethodName := ⟨RX1, "put", "(III)V"⟩
abbrev cX1_wrap : ByteArray := prog_3_method_8_code
def yX1_wrap : MethodName := ⟨RX1, "wrap", "(I)I"⟩
abbrev cX1_tally : ByteArray := prog_3_method_9_code
def yX1_tally : MethodName := ⟨RX1, "tally", "(II)I"⟩
abbrev cX1_share : ByteArray := prog_3_method_10_code
def yX1_share : MethodName := ⟨RX1, "share", "(II)I"⟩
abbrev cX1_shadowAt : ByteArray := prog_3_method_11_code
def yX1_shadowAt : MethodName := ⟨RX1, "shadowAt", "(I)I"⟩
abbrev cX1_meetsAt : ByteArray := prog_3_method_12_code
def yX1_meetsAt : MethodName := ⟨RX1, "meetsAt", "(I)I"⟩
abbrev cX1_throughMask : ByteArray := prog_3_method_13_code
def yX1_throughMask : MethodName := ⟨RX1, "throughMask", "([II)I"⟩
abbrev cX1_firstOff : ByteArray := prog_3_method_14_code
def yX1_firstOff : MethodName := ⟨RX1, "firstOff", "()I"⟩
abbrev cX1_turnMask : ByteArray := prog_3_method_15_code
def yX1_turnMask : MethodName := ⟨RX1, "turnMask", "(I)V"⟩
def RX2 : String := "HoleMask$Finder"
def TX2 : u_T := fun k => match k with
  | 0 => ("HoleMask$Finder", "least", "[I", true)
  | 1 => ("HoleMask$Finder", "most", "[I", true)
  | 2 => ("HoleMask$Finder", "found", "[I", true)
  | _ => ("HoleMask$Finder", "total", "I", false)
def tyX2 : Nat → FieldType := fun k => match k with
  | 0 => .array .int
  | 1 => .array .int
  | 2 => .array .int
  | _ => .int
theorem nmX2 : ∀ a, a < 4 → ∀ b, b < 4 → a ≠ b → (TX2 a).2.1 ≠ (TX2 b).2.1 := by decide +kernel
theorem tyX2_ok : ∀ k, k < 4 → parseFieldDescriptor (TX2 k).2.2.1 = some (tyX2 k) := by decide +kernel
abbrev cX2_init : ByteArray := prog_4_method_1_code
def yX2_init : MethodName := ⟨RX2, "<init>", "()V"⟩
abbrev cX2_search : ByteArray := prog_4_method_2_code
def yX2_search : MethodName := ⟨RX2, "search", "(LHoleMask$Circle;I)V"⟩
abbrev cX2_searchPairs : ByteArray := prog_4_method_3_code
def yX2_searchPairs : MethodName := ⟨RX2, "searchPairs", "(LHoleMask$Circle;II)V"⟩
abbrev cX2_openWindows : ByteArray := prog_4_method_4_code
def yX2_openWindows : MethodName := ⟨RX2, "openWindows", "(LHoleMask$Circle;III)V"⟩
abbrev cX2_holds : ByteArray := prog_4_method_5_code
def yX2_holds : MethodName := ⟨RX2, "holds", "(II)Z"⟩
abbrev cX2_tellSeconds : ByteArray := prog_4_method_6_code
def yX2_tellSeconds : MethodName := ⟨RX2, "tellSeconds", "(III)V"⟩
abbrev cX2_tell : ByteArray := prog_4_method_7_code
def yX2_tell : MethodName := ⟨RX2, "tell", "(IIII)V"⟩
abbrev cX2_part : ByteArray := prog_4_method_8_code
def yX2_part : MethodName := ⟨RX2, "part", "(II)I"⟩
def RX3 : String := "HoleMask$Paper"
def TX3 : u_T := fun k => match k with
  | 0 => ("HoleMask$Paper", "entries", "[I", true)
  | 1 => ("HoleMask$Paper", "kind", "I", false)
  | _ => ("HoleMask$Paper", "length", "I", false)
def tyX3 : Nat → FieldType := fun k => match k with
  | 0 => .array .int
  | 1 => .int
  | _ => .int
theorem nmX3 : ∀ a, a < 3 → ∀ b, b < 3 → a ≠ b → (TX3 a).2.1 ≠ (TX3 b).2.1 := by decide +kernel
theorem tyX3_ok : ∀ k, k < 3 → parseFieldDescriptor (TX3 k).2.2.1 = some (tyX3 k) := by decide +kernel
abbrev cX3_init : ByteArray := prog_5_method_1_code
def yX3_init : MethodName := ⟨RX3, "<init>", "()V"⟩
abbrev cX3_take : ByteArray := prog_5_method_2_code
def yX3_take : MethodName := ⟨RX3, "take", "(II)V"⟩
abbrev cX3_drop : ByteArray := prog_5_method_3_code
def yX3_drop : MethodName := ⟨RX3, "drop", "()V"⟩
abbrev cX3_write : ByteArray := prog_5_method_4_code
def yX3_write : MethodName := ⟨RX3, "write", "(II)V"⟩
abbrev cX3_read : ByteArray := prog_5_method_5_code
def yX3_read : MethodName := ⟨RX3, "read", "(I)I"⟩
def RX4 : String := "HoleMask$Undoer"
def TX4 : u_T := fun k => match k with
  | 0 => ("HoleMask$Undoer", "cells", "[[J", true)
  | 1 => ("HoleMask$Undoer", "backs", "[J", true)
  | 2 => ("HoleMask$Undoer", "numbers", "[J", true)
  | 3 => ("HoleMask$Undoer", "divisor", "J", false)
  | _ => ("HoleMask$Undoer", "told", "Z", false)
def tyX4 : Nat → FieldType := fun k => match k with
  | 0 => .array (.array .long)
  | 1 => .array .long
  | 2 => .array .long
  | 3 => .long
  | _ => .boolean
theorem nmX4 : ∀ a, a < 5 → ∀ b, b < 5 → a ≠ b → (TX4 a).2.1 ≠ (TX4 b).2.1 := by decide +kernel
theorem tyX4_ok : ∀ k, k < 5 → parseFieldDescriptor (TX4 k).2.2.1 = some (tyX4 k) := by decide +kernel
abbrev cX4_init : ByteArray := prog_6_method_1_code
def yX4_init : MethodName := ⟨RX4, "<init>", "()V"⟩
abbrev cX4_reduce : ByteArray := prog_6_method_2_code
def yX4_reduce : MethodName := ⟨RX4, "reduce", "(LHoleMask$Circle;)I"⟩
abbrev cX4_fillCells : ByteArray := prog_6_method_3_code
def yX4_fillCells : MethodName := ⟨RX4, "fillCells", "(LHoleMask$Circle;I)V"⟩
abbrev cX4_rowToLead : ByteArray := prog_6_method_4_code
def yX4_rowToLead : MethodName := ⟨RX4, "rowToLead", "(II)I"⟩
abbrev cX4_swapCells : ByteArray := prog_6_method_5_code
def yX4_swapCells : MethodName := ⟨RX4, "swapCells", "(III)V"⟩
abbrev cX4_clearColumn : ByteArray := prog_6_method_6_code
def yX4_clearColumn : MethodName := ⟨RX4, "clearColumn", "(IIJ)V"⟩
abbrev cX4_invert : ByteArray := prog_6_method_7_code
def yX4_invert : MethodName := ⟨RX4, "invert", "(LHoleMask$Circle;)Z"⟩
abbrev cX4_backAt : ByteArray := prog_6_method_8_code
def yX4_backAt : MethodName := ⟨RX4, "backAt", "(I)J"⟩
abbrev cX4_noisePart : ByteArray := prog_6_method_9_code
def yX4_noisePart : MethodName := ⟨RX4, "noisePart", "(ZI)J"⟩
abbrev cX4_showLost : ByteArray := prog_6_method_10_code
def yX4_showLost : MethodName := ⟨RX4, "showLost", "(LHoleMask$Circle;I)V"⟩
abbrev cX4_showSolved : ByteArray := prog_6_method_11_code
def yX4_showSolved : MethodName := ⟨RX4, "showSolved", "(LHoleMask$Circle;)Z"⟩
def RX5 : String := "HoleMask"
def TX5 : u_T := fun k => match k with
  | 0 => ("HoleMask", "circle", "LHoleMask$Circle;", true)
  | 1 => ("HoleMask", "paper", "LHoleMask$Paper;", true)
  | 2 => ("HoleMask", "undoer", "LHoleMask$Undoer;", true)
  | 3 => ("HoleMask", "finder", "LHoleMask$Finder;", true)
  | 4 => ("HoleMask", "board", "LHoleMask$Board;", true)
  | _ => ("HoleMask", "latestFault", "I", false)
def tyX5 : Nat → FieldType := fun k => match k with
  | 0 => .object "HoleMask$Circle"
  | 1 => .object "HoleMask$Paper"
  | 2 => .object "HoleMask$Undoer"
  | 3 => .object "HoleMask$Finder"
  | 4 => .object "HoleMask$Board"
  | _ => .int
theorem nmX5 : ∀ a, a < 6 → ∀ b, b < 6 → a ≠ b → (TX5 a).2.1 ≠ (TX5 b).2.1 := by decide +kernel
theorem tyX5_ok : ∀ k, k < 6 → parseFieldDescriptor (TX5 k).2.2.1 = some (tyX5 k) := by decide +kernel
abbrev cX5_init : ByteArray := prog_1_method_1_code
def yX5_init : MethodName := ⟨RX5, "<init>", "()V"⟩
abbrev cX5_ring : ByteArray := prog_1_method_2_code
def yX5_ring : MethodName := ⟨RX5, "ring", "(I)Z"⟩
abbrev cX5_sheet : ByteArray := prog_1_method_3_code
def yX5_sheet : MethodName := ⟨RX5, "sheet", "(II)I"⟩
abbrev cX5_entry : ByteArray := prog_1_method_4_code
def yX5_entry : MethodName := ⟨RX5, "entry", "(II)Z"⟩
abbrev cX5_lay : ByteArray := prog_1_method_5_code
def yX5_lay : MethodName := ⟨RX5, "lay", "(I)Z"⟩
abbrev cX5_set : ByteArray := prog_1_method_6_code
def yX5_set : MethodName := ⟨RX5, "set", "(III)Z"⟩
abbrev cX5_miss : ByteArray := prog_1_method_7_code
def yX5_miss : MethodName := ⟨RX5, "miss", "(I)Z"⟩
abbrev cX5_at : ByteArray := prog_1_method_8_code
def yX5_at : MethodName := ⟨RX5, "at", "(II)I"⟩
abbrev cX5_count : ByteArray := prog_1_method_9_code
def yX5_count : MethodName := ⟨RX5, "count", "(I)I"⟩
abbrev cX5_shadow : ByteArray := prog_1_method_10_code
def yX5_shadow : MethodName := ⟨RX5, "shadow", "(I)I"⟩
abbrev cX5_cast : ByteArray := prog_1_method_11_code
def yX5_cast : MethodName := ⟨RX5, "cast", "()Z"⟩
abbrev cX5_meets : ByteArray := prog_1_method_12_code
def yX5_meets : MethodName := ⟨RX5, "meets", "(I)I"⟩
abbrev cX5_off : ByteArray := prog_1_method_13_code
def yX5_off : MethodName := ⟨RX5, "off", "()I"⟩
abbrev cX5_turn : ByteArray := prog_1_method_14_code
def yX5_turn : MethodName := ⟨RX5, "turn", "(I)Z"⟩
abbrev cX5_anti : ByteArray := prog_1_method_15_code
def yX5_anti : MethodName := ⟨RX5, "anti", "()Z"⟩
abbrev cX5_fold : ByteArray := prog_1_method_16_code
def yX5_fold : MethodName := ⟨RX5, "fold", "(IIII)I"⟩
abbrev cX5_rests : ByteArray := prog_1_method_17_code
def yX5_rests : MethodName := ⟨RX5, "rests", "(I)I"⟩
abbrev cX5_twins : ByteArray := prog_1_method_18_code
def yX5_twins : MethodName := ⟨RX5, "twins", "(I)I"⟩
abbrev cX5_shift : ByteArray := prog_1_method_19_code
def yX5_shift : MethodName := ⟨RX5, "shift", "(I)I"⟩
abbrev cX5_undo : ByteArray := prog_1_method_20_code
def yX5_undo : MethodName := ⟨RX5, "undo", "()J"⟩
abbrev cX5_back : ByteArray := prog_1_method_21_code
def yX5_back : MethodName := ⟨RX5, "back", "(I)J"⟩
abbrev cX5_noise : ByteArray := prog_1_method_22_code
def yX5_noise : MethodName := ⟨RX5, "noise", "(I)J"⟩
abbrev cX5_rank : ByteArray := prog_1_method_23_code
def yX5_rank : MethodName := ⟨RX5, "rank", "()I"⟩
abbrev cX5_lost : ByteArray := prog_1_method_24_code
def yX5_lost : MethodName := ⟨RX5, "lost", "()I"⟩
abbrev cX5_solve : ByteArray := prog_1_method_25_code
def yX5_solve : MethodName := ⟨RX5, "solve", "()I"⟩
abbrev cX5_sure : ByteArray := prog_1_method_26_code
def yX5_sure : MethodName := ⟨RX5, "sure", "()I"⟩
abbrev cX5_points : ByteArray := prog_1_method_27_code
def yX5_points : MethodName := ⟨RX5, "points", "(I)I"⟩
abbrev cX5_point : ByteArray := prog_1_method_28_code
def yX5_point : MethodName := ⟨RX5, "point", "(II)I"⟩
abbrev cX5_table : ByteArray := prog_1_method_29_code
def yX5_table : MethodName := ⟨RX5, "table", "(II)I"⟩
abbrev cX5_twice : ByteArray := prog_1_method_30_code
def yX5_twice : MethodName := ⟨RX5, "twice", "()I"⟩
abbrev cX5_swap : ByteArray := prog_1_method_31_code
def yX5_swap : MethodName := ⟨RX5, "swap", "(II)Z"⟩
abbrev cX5_sign : ByteArray := prog_1_method_32_code
def yX5_sign : MethodName := ⟨RX5, "sign", "(II)I"⟩
abbrev cX5_product : ByteArray := prog_1_method_33_code
def yX5_product : MethodName := ⟨RX5, "product", "(II)I"⟩
abbrev cX5_look : ByteArray := prog_1_method_34_code
def yX5_look : MethodName := ⟨RX5, "look", "(I)I"⟩
abbrev cX5_fault : ByteArray := prog_1_method_35_code
def yX5_fault : MethodName := ⟨RX5, "fault", "()I"⟩
abbrev cX5_refuses : ByteArray := prog_1_method_36_code
def yX5_refuses : MethodName := ⟨RX5, "refuses", "(I)Z"⟩
abbrev cX5_startRing : ByteArray := prog_1_method_37_code
def yX5_startRing : MethodName := ⟨RX5, "startRing", "(I)V"⟩
abbrev cX5_forgetBackOf : ByteArray := prog_1_method_38_code
def yX5_forgetBackOf : MethodName := ⟨RX5, "forgetBackOf", "(I)V"⟩
abbrev cX5_sheetFault : ByteArray := prog_1_method_39_code
def yX5_sheetFault : MethodName := ⟨RX5, "sheetFault", "(II)I"⟩
abbrev cX5_layFault : ByteArray := prog_1_method_40_code
def yX5_layFault : MethodName := ⟨RX5, "layFault", "(I)I"⟩
abbrev cX5_canFold : ByteArray := prog_1_method_41_code
def yX5_canFold : MethodName := ⟨RX5, "canFold", "(IIII)Z"⟩
abbrev cX5_smallRingFault : ByteArray := prog_1_method_42_code
def yX5_smallRingFault : MethodName := ⟨RX5, "smallRingFault", "()I"⟩
abbrev cX5_rowsFault : ByteArray := prog_1_method_43_code
def yX5_rowsFault : MethodName := ⟨RX5, "rowsFault", "(II)I"⟩
abbrev cX5_isPrime : ByteArray := prog_1_method_44_code
def yX5_isPrime : MethodName := ⟨RX5, "isPrime", "(I)Z"⟩
abbrev cX5_isRestPrime : ByteArray := prog_1_method_45_code
def yX5_isRestPrime : MethodName := ⟨RX5, "isRestPrime", "(I)Z"⟩
abbrev cX5_isTwinPrime : ByteArray := prog_1_method_46_code
def yX5_isTwinPrime : MethodName := ⟨RX5, "isTwinPrime", "(I)Z"⟩
abbrev cX5_isSquare : ByteArray := prog_1_method_47_code
def yX5_isSquare : MethodName := ⟨RX5, "isSquare", "(II)Z"⟩
abbrev cX5_nextState : ByteArray := prog_1_method_48_code
def yX5_nextState : MethodName := ⟨RX5, "nextState", "(III)I"⟩
abbrev cX5_leastTaps : ByteArray := prog_1_method_49_code
def yX5_leastTaps : MethodName := ⟨RX5, "leastTaps", "(II)I"⟩
abbrev cX5_stepsRound : ByteArray := prog_1_method_50_code
def yX5_stepsRound : MethodName := ⟨RX5, "stepsRound", "(III)I"⟩
abbrev cX5_commonDivisor : ByteArray := prog_1_method_51_code
def yX5_commonDivisor : MethodName := ⟨RX5, "commonDivisor", "(JJ)J"⟩
abbrev cX5_quotient : ByteArray := prog_1_method_52_code
def yX5_quotient : MethodName := ⟨RX5, "quotient", "(JJ)J"⟩
def RX6 : String := "HoleMaskModel"
def TX6 : u_T := fun k => match k with
  | 0 => ("HoleMaskModel", "n", "I", false)
  | 1 => ("HoleMaskModel", "mask", "[I", true)
  | 2 => ("HoleMaskModel", "scene", "[I", true)
  | 3 => ("HoleMaskModel", "readings", "[I", true)
  | 4 => ("HoleMaskModel", "missing", "[Z", true)
  | 5 => ("HoleMaskModel", "sheetKind", "I", false)
  | 6 => ("HoleMaskModel", "sheetMany", "I", false)
  | 7 => ("HoleMaskModel", "sheet", "[I", true)
  | 8 => ("HoleMaskModel", "under", "J", false)
  | 9 => ("HoleMaskModel", "back", "[J", true)
  | 10 => ("HoleMaskModel", "tableSize", "I", false)
  | 11 => ("HoleMaskModel", "table", "[I", true)
  | 12 => ("HoleMaskModel", "points", "[I", true)
  | 13 => ("HoleMaskModel", "pointMany", "I", false)
  | 14 => ("HoleMaskModel", "fault", "I", false)
  | 15 => ("HoleMaskModel", "thrown", "I", false)
  | 16 => ("HoleMaskModel", "cells", "[J", true)
  | 17 => ("HoleMaskModel", "answer", "[J", true)
  | 18 => ("HoleMaskModel", "found", "[J", true)
  | 19 => ("HoleMaskModel", "was", "[I", true)
  | _ => ("HoleMaskModel", "divisor", "J", false)
def tyX6 : Nat → FieldType := fun k => match k with
  | 0 => .int
  | 1 => .array .int
  | 2 => .array .int
  | 3 => .array .int
  | 4 => .array .boolean
  | 5 => .int
  | 6 => .int
  | 7 => .array .int
  | 8 => .long
  | 9 => .array .long
  | 10 => .int
  | 11 => .array .int
  | 12 => .array .int
  | 13 => .int
  | 14 => .int
  | 15 => .int
  | 16 => .array .long
  | 17 => .array .long
  | 18 => .array .long
  | 19 => .array .int
  | _ => .long
theorem nmX6 : ∀ a, a < 21 → ∀ b, b < 21 → a ≠ b → (TX6 a).2.1 ≠ (TX6 b).2.1 := by decide +kernel
theorem tyX6_ok : ∀ k, k < 21 → parseFieldDescriptor (TX6 k).2.2.1 = some (tyX6 k) := by decide +kernel
abbrev cX6_init : ByteArray := prog_8_method_1_code
def yX6_init : MethodName := ⟨RX6, "<init>", "()V"⟩
abbrev cX6_thrown : ByteArray := prog_8_method_2_code
def yX6_thrown : MethodName := ⟨RX6, "thrown", "()I"⟩
abbrev cX6_no : ByteArray := prog_8_method_3_code
def yX6_no : MethodName := ⟨RX6, "no", "(I)I"⟩
abbrev cX6_not : ByteArray := prog_8_method_4_code
def yX6_not : MethodName := ⟨RX6, "not", "(I)Z"⟩
abbrev cX6_start : ByteArray := prog_8_method_5_code
def yX6_start : MethodName := ⟨RX6, "start", "()V"⟩
abbrev cX6_isPlace : ByteArray := prog_8_method_6_code
def yX6_isPlace : MethodName := ⟨RX6, "isPlace", "(I)Z"⟩
abbrev cX6_begin : ByteArray := prog_8_method_7_code
def yX6_begin : MethodName := ⟨RX6, "begin", "(I)V"⟩
abbrev cX6_ring : ByteArray := prog_8_method_8_code
def yX6_ring : MethodName := ⟨RX6, "ring", "(I)Z"⟩
abbrev cX6_sheet : ByteArray := prog_8_method_9_code
def yX6_sheet : MethodName := ⟨RX6, "sheet", "(II)I"⟩
abbrev cX6_entry : ByteArray := prog_8_method_10_code
def yX6_entry : MethodName := ⟨RX6, "entry", "(II)Z"⟩
abbrev cX6_most : ByteArray := prog_8_method_11_code
def yX6_most : MethodName := ⟨RX6, "most", "(I)I"⟩
abbrev cX6_lay : ByteArray := prog_8_method_12_code
def yX6_lay : MethodName := ⟨RX6, "lay", "(I)Z"⟩
abbrev cX6_put : ByteArray := prog_8_method_13_code
def yX6_put : MethodName := ⟨RX6, "put", "(III)V"⟩
abbrev cX6_set : ByteArray := prog_8_method_14_code
def yX6_set : MethodName := ⟨RX6, "set", "(III)Z"⟩
abbrev cX6_miss : ByteArray := prog_8_method_15_code
def yX6_miss : MethodName := ⟨RX6, "miss", "(I)Z"⟩
abbrev cX6_at : ByteArray := prog_8_method_16_code
def yX6_at : MethodName := ⟨RX6, "at", "(II)I"⟩
abbrev cX6_meetsAt : ByteArray := prog_8_method_17_code
def yX6_meetsAt : MethodName := ⟨RX6, "meetsAt", "(I)I"⟩
abbrev cX6_firstOff : ByteArray := prog_8_method_18_code
def yX6_firstOff : MethodName := ⟨RX6, "firstOff", "()I"⟩
abbrev cX6_count : ByteArray := prog_8_method_19_code
def yX6_count : MethodName := ⟨RX6, "count", "(I)I"⟩
abbrev cX6_shadowAt : ByteArray := prog_8_method_20_code
def yX6_shadowAt : MethodName := ⟨RX6, "shadowAt", "(I)I"⟩
abbrev cX6_shadow : ByteArray := prog_8_method_21_code
def yX6_shadow : MethodName := ⟨RX6, "shadow", "(I)I"⟩
abbrev cX6_cast : ByteArray := prog_8_method_22_code
def yX6_cast : MethodName := ⟨RX6, "cast", "()Z"⟩
abbrev cX6_meets : ByteArray := prog_8_method_23_code
def yX6_meets : MethodName := ⟨RX6, "meets", "(I)I"⟩
abbrev cX6_off : ByteArray := prog_8_method_24_code
def yX6_off : MethodName := ⟨RX6, "off", "()I"⟩
abbrev cX6_turn : ByteArray := prog_8_method_25_code
def yX6_turn : MethodName := ⟨RX6, "turn", "(I)Z"⟩
abbrev cX6_anti : ByteArray := prog_8_method_26_code
def yX6_anti : MethodName := ⟨RX6, "anti", "()Z"⟩
abbrev cX6_common : ByteArray := prog_8_method_27_code
def yX6_common : MethodName := ⟨RX6, "common", "(II)I"⟩
abbrev cX6_fold : ByteArray := prog_8_method_28_code
def yX6_fold : MethodName := ⟨RX6, "fold", "(IIII)I"⟩
abbrev cX6_isPrime : ByteArray := prog_8_method_29_code
def yX6_isPrime : MethodName := ⟨RX6, "isPrime", "(I)Z"⟩
abbrev cX6_isSquare : ByteArray := prog_8_method_30_code
def yX6_isSquare : MethodName := ⟨RX6, "isSquare", "(II)Z"⟩
abbrev cX6_holes : ByteArray := prog_8_method_31_code
def yX6_holes : MethodName := ⟨RX6, "holes", "()I"⟩
abbrev cX6_rests : ByteArray := prog_8_method_32_code
def yX6_rests : MethodName := ⟨RX6, "rests", "(I)I"⟩
abbrev cX6_twins : ByteArray := prog_8_method_33_code
def yX6_twins : MethodName := ⟨RX6, "twins", "(I)I"⟩
abbrev cX6_round : ByteArray := prog_8_method_34_code
def yX6_round : MethodName := ⟨RX6, "round", "(II[II)I"⟩
abbrev cX6_shift : ByteArray := prog_8_method_35_code
def yX6_shift : MethodName := ⟨RX6, "shift", "(I)I"⟩
abbrev cX6_down : ByteArray := prog_8_method_36_code
def yX6_down : MethodName := ⟨RX6, "down", "(III)I"⟩
abbrev cX6_gcd : ByteArray := prog_8_method_37_code
def yX6_gcd : MethodName := ⟨RX6, "gcd", "(JJ)J"⟩
abbrev cX6_solveBack : ByteArray := prog_8_method_38_code
def yX6_solveBack : MethodName := ⟨RX6, "solveBack", "()Z"⟩
abbrev cX6_undo : ByteArray := prog_8_method_39_code
def yX6_undo : MethodName := ⟨RX6, "undo", "()J"⟩
abbrev cX6_back : ByteArray := prog_8_method_40_code
def yX6_back : MethodName := ⟨RX6, "back", "(I)J"⟩
abbrev cX6_noise : ByteArray := prog_8_method_41_code
def yX6_noise : MethodName := ⟨RX6, "noise", "(I)J"⟩
abbrev cX6_layShadow : ByteArray := prog_8_method_42_code
def yX6_layShadow : MethodName := ⟨RX6, "layShadow", "(ZII)I"⟩
abbrev cX6_rank : ByteArray := prog_8_method_43_code
def yX6_rank : MethodName := ⟨RX6, "rank", "()I"⟩
abbrev cX6_sure : ByteArray := prog_8_method_44_code
def yX6_sure : MethodName := ⟨RX6, "sure", "()I"⟩
abbrev cX6_lost : ByteArray := prog_8_method_45_code
def yX6_lost : MethodName := ⟨RX6, "lost", "()I"⟩
abbrev cX6_solve : ByteArray := prog_8_method_46_code
def yX6_solve : MethodName := ⟨RX6, "solve", "()I"⟩
abbrev cX6_fits : ByteArray := prog_8_method_47_code
def yX6_fits : MethodName := ⟨RX6, "fits", "(IIIII)Z"⟩
abbrev cX6_note : ByteArray := prog_8_method_48_code
def yX6_note : MethodName := ⟨RX6, "note", "(IIII)V"⟩
abbrev cX6_points : ByteArray := prog_8_method_49_code
def yX6_points : MethodName := ⟨RX6, "points", "(I)I"⟩
abbrev cX6_point : ByteArray := prog_8_method_50_code
def yX6_point : MethodName := ⟨RX6, "point", "(II)I"⟩
abbrev cX6_table : ByteArray := prog_8_method_51_code
def yX6_table : MethodName := ⟨RX6, "table", "(II)I"⟩
abbrev cX6_twice : ByteArray := prog_8_method_52_code
def yX6_twice : MethodName := ⟨RX6, "twice", "()I"⟩
abbrev cX6_isRow : ByteArray := prog_8_method_53_code
def yX6_isRow : MethodName := ⟨RX6, "isRow", "(I)Z"⟩
abbrev cX6_swap : ByteArray := prog_8_method_54_code
def yX6_swap : MethodName := ⟨RX6, "swap", "(II)Z"⟩
abbrev cX6_sign : ByteArray := prog_8_method_55_code
def yX6_sign : MethodName := ⟨RX6, "sign", "(II)I"⟩
abbrev cX6_product : ByteArray := prog_8_method_56_code
def yX6_product : MethodName := ⟨RX6, "product", "(II)I"⟩
abbrev cX6_look : ByteArray := prog_8_method_57_code
def yX6_look : MethodName := ⟨RX6, "look", "(I)I"⟩
abbrev cX6_fault : ByteArray := prog_8_method_58_code
def yX6_fault : MethodName := ⟨RX6, "fault", "()I"⟩
def RJ6 : String := "java/lang/Integer"
def TJ6 : u_T := fun k => match k with
  | _ => ("", "", "", false)
def tyJ6 : Nat → FieldType := fun k => match k with
  | _ => .int
theorem nmJ6 : ∀ a, a < 0 → ∀ b, b < 0 → a ≠ b → (TJ6 a).2.1 ≠ (TJ6 b).2.1 := by decide +kernel
theorem tyJ6_ok : ∀ k, k < 0 → parseFieldDescriptor (TJ6 k).2.2.1 = some (tyJ6 k) := by decide +kernel
abbrev cJ6_bitCount_0f7a4 : ByteArray := prog_10_method_49_code
def yJ6_bitCount_0f7a4 : MethodName := ⟨RJ6, "bitCount", "(I)I"⟩
def RJ9 : String := "java/lang/Math"
def TJ9 : u_T := fun k => match k with
  | _ => ("", "", "", false)
def tyJ9 : Nat → FieldType := fun k => match k with
  | _ => .int
theorem nmJ9 : ∀ a, a < 0 → ∀ b, b < 0 → a ≠ b → (TJ9 a).2.1 ≠ (TJ9 b).2.1 := by decide +kernel
theorem tyJ9_ok : ∀ k, k < 0 → parseFieldDescriptor (TJ9 k).2.2.1 = some (tyJ9 k) := by decide +kernel
abbrev cJ9_floorMod_7cf53 : ByteArray := prog_11_method_50_code
def yJ9_floorMod_7cf53 : MethodName := ⟨RJ9, "floorMod", "(II)I"⟩
abbrev cJ9_abs_0f7a4 : ByteArray := prog_11_method_59_code
def yJ9_abs_0f7a4 : MethodName := ⟨RJ9, "abs", "(I)I"⟩
abbrev cJ9_abs_067f4 : ByteArray := prog_11_method_61_code
def yJ9_abs_067f4 : MethodName := ⟨RJ9, "abs", "(J)J"⟩
abbrev cJ9_max_7cf53 : ByteArray := prog_11_method_65_code
def yJ9_max_7cf53 : MethodName := ⟨RJ9, "max", "(II)I"⟩
abbrev cJ9_min_7cf53 : ByteArray := prog_11_method_69_code
def yJ9_min_7cf53 : MethodName := ⟨RJ9, "min", "(II)I"⟩
def RJ0 : String := "java/lang/String"
def TJ0 : u_T := fun k => match k with
  | _ => ("", "", "", false)
def tyJ0 : Nat → FieldType := fun k => match k with
  | _ => .int
theorem nmJ0 : ∀ a, a < 0 → ∀ b, b < 0 → a ≠ b → (TJ0 a).2.1 ≠ (TJ0 b).2.1 := by decide +kernel
theorem tyJ0_ok : ∀ k, k < 0 → parseFieldDescriptor (TJ0 k).2.2.1 = some (tyJ0 k) := by decide +kernel
def RJ10 : String := "java/lang/System"
def TJ10 : u_T := fun k => match k with
  | _ => ("", "", "", false)
def tyJ10 : Nat → FieldType := fun k => match k with
  | _ => .int
theorem nmJ10 : ∀ a, a < 0 → ∀ b, b < 0 → a ≠ b → (TJ10 a).2.1 ≠ (TJ10 b).2.1 := by decide +kernel
theorem tyJ10_ok : ∀ k, k < 0 → parseFieldDescriptor (TJ10 k).2.2.1 = some (tyJ10 k) := by decide +kernel
def RJ7 : String := "java/util/Arrays"
def TJ7 : u_T := fun k => match k with
  | _ => ("", "", "", false)
def tyJ7 : Nat → FieldType := fun k => match k with
  | _ => .int
theorem nmJ7 : ∀ a, a < 0 → ∀ b, b < 0 → a ≠ b → (TJ7 a).2.1 ≠ (TJ7 b).2.1 := by decide +kernel
theorem tyJ7_ok : ∀ k, k < 0 → parseFieldDescriptor (TJ7 k).2.2.1 = some (tyJ7 k) := by decide +kernel
abbrev cJ7_fill_53178 : ByteArray := prog_16_method_103_code
def yJ7_fill_53178 : MethodName := ⟨RJ7, "fill", "([II)V"⟩
def RL : String := "HoleMaskLaw"
abbrev cL_at : ByteArray := method_3_code
def yL_at : MethodName := ⟨RL, "at", "(LHoleMask;II[J)I"⟩
abbrev cL_law : ByteArray := code
def yL_law : MethodName := ⟨RL, "law", "([I)Z"⟩
end
section
theorem dJ6_bitCount_0f7a4_0 : decode cJ6_bitCount_0f7a4 0 = .ok (.iload_n 0, 1) := by decide +kernel
theorem dJ6_bitCount_0f7a4_1 : decode cJ6_bitCount_0f7a4 1 = .ok (.iload_n 0, 1) := by decide +kernel
theorem dJ6_bitCount_0f7a4_2 : decode cJ6_bitCount_0f7a4 2 = .ok (.iconst 1, 1) := by decide +kernel
theorem dJ6_bitCount_0f7a4_3 : decode cJ6_bitCount_0f7a4 3 = .ok (.iushr, 1) := by decide +kernel
theorem dJ6_bitCount_0f7a4_4 : decode cJ6_bitCount_0f7a4 4 = .ok (.ldc_w 265, 3) := by decide +kernel
theorem dJ6_bitCount_0f7a4_7 : decode cJ6_bitCount_0f7a4 7 = .ok (.iand, 1) := by decide +kernel
theorem dJ6_bitCount_0f7a4_8 : decode cJ6_bitCount_0f7a4 8 = .ok (.isub, 1) := by decide +kernel
theorem dJ6_bitCount_0f7a4_9 : decode cJ6_bitCount_0f7a4 9 = .ok (.istore_n 0, 1) := by decide +kernel
theorem dJ6_bitCount_0f7a4_10 : decode cJ6_bitCount_0f7a4 10 = .ok (.iload_n 0, 1) := by decide +kernel
theorem dJ6_bitCount_0f7a4_11 : decode cJ6_bitCount_0f7a4 11 = .ok (.ldc_w 266, 3) := by decide +kernel
theorem dJ6_bitCount_0f7a4_14 : decode cJ6_bitCount_0f7a4 14 = .ok (.iand, 1) := by decide +kernel
theorem dJ6_bitCount_0f7a4_15 : decode cJ6_bitCount_0f7a4 15 = .ok (.iload_n 0, 1) := by decide +kernel
theorem dJ6_bitCount_0f7a4_16 : decode cJ6_bitCount_0f7a4 16 = .ok (.iconst 2, 1) := by decide +kernel
theorem dJ6_bitCount_0f7a4_17 : decode cJ6_bitCount_0f7a4 17 = .ok (.iushr, 1) := by decide +kernel
theorem dJ6_bitCount_0f7a4_18 : decode cJ6_bitCount_0f7a4 18 = .ok (.ldc_w 266, 3) := by decide +kernel
theorem dJ6_bitCount_0f7a4_21 : decode cJ6_bitCount_0f7a4 21 = .ok (.iand, 1) := by decide +kernel
theorem dJ6_bitCount_0f7a4_22 : decode cJ6_bitCount_0f7a4 22 = .ok (.iadd, 1) := by decide +kernel
theorem dJ6_bitCount_0f7a4_23 : decode cJ6_bitCount_0f7a4 23 = .ok (.istore_n 0, 1) := by decide +kernel
theorem dJ6_bitCount_0f7a4_24 : decode cJ6_bitCount_0f7a4 24 = .ok (.iload_n 0, 1) := by decide +kernel
theorem dJ6_bitCount_0f7a4_25 : decode cJ6_bitCount_0f7a4 25 = .ok (.iload_n 0, 1) := by decide +kernel
theorem dJ6_bitCount_0f7a4_26 : decode cJ6_bitCount_0f7a4 26 = .ok (.iconst 4, 1) := by decide +kernel
theorem dJ6_bitCount_0f7a4_27 : decode cJ6_bitCount_0f7a4 27 = .ok (.iushr, 1) := by decide +kernel
theorem dJ6_bitCount_0f7a4_28 : decode cJ6_bitCount_0f7a4 28 = .ok (.iadd, 1) := by decide +kernel
theorem dJ6_bitCount_0f7a4_29 : decode cJ6_bitCount_0f7a4 29 = .ok (.ldc_w 267, 3) := by decide +kernel
theorem dJ6_bitCount_0f7a4_32 : decode cJ6_bitCount_0f7a4 32 = .ok (.iand, 1) := by decide +kernel
theorem dJ6_bitCount_0f7a4_33 : decode cJ6_bitCount_0f7a4 33 = .ok (.istore_n 0, 1) := by decide +kernel
theorem dJ6_bitCount_0f7a4_34 : decode cJ6_bitCount_0f7a4 34 = .ok (.iload_n 0, 1) := by decide +kernel
theorem dJ6_bitCount_0f7a4_35 : decode cJ6_bitCount_0f7a4 35 = .ok (.iload_n 0, 1) := by decide +kernel
theorem dJ6_bitCount_0f7a4_36 : decode cJ6_bitCount_0f7a4 36 = .ok (.bipush 8, 2) := by decide +kernel
theorem dJ6_bitCount_0f7a4_38 : decode cJ6_bitCount_0f7a4 38 = .ok (.iushr, 1) := by decide +kernel
theorem dJ6_bitCount_0f7a4_39 : decode cJ6_bitCount_0f7a4 39 = .ok (.iadd, 1) := by decide +kernel
theorem dJ6_bitCount_0f7a4_40 : decode cJ6_bitCount_0f7a4 40 = .ok (.istore_n 0, 1) := by decide +kernel
theorem dJ6_bitCount_0f7a4_41 : decode cJ6_bitCount_0f7a4 41 = .ok (.iload_n 0, 1) := by decide +kernel
theorem dJ6_bitCount_0f7a4_42 : decode cJ6_bitCount_0f7a4 42 = .ok (.iload_n 0, 1) := by decide +kernel
theorem dJ6_bitCount_0f7a4_43 : decode cJ6_bitCount_0f7a4 43 = .ok (.bipush 16, 2) := by decide +kernel
theorem dJ6_bitCount_0f7a4_45 : decode cJ6_bitCount_0f7a4 45 = .ok (.iushr, 1) := by decide +kernel
theorem dJ6_bitCount_0f7a4_46 : decode cJ6_bitCount_0f7a4 46 = .ok (.iadd, 1) := by decide +kernel
theorem dJ6_bitCount_0f7a4_47 : decode cJ6_bitCount_0f7a4 47 = .ok (.istore_n 0, 1) := by decide +kernel
theorem dJ6_bitCount_0f7a4_48 : decode cJ6_bitCount_0f7a4 48 = .ok (.iload_n 0, 1) := by decide +kernel
theorem dJ6_bitCount_0f7a4_49 : decode cJ6_bitCount_0f7a4 49 = .ok (.bipush 63, 2) := by decide +kernel
theorem dJ6_bitCount_0f7a4_51 : decode cJ6_bitCount_0f7a4 51 = .ok (.iand, 1) := by decide +kernel
theorem dJ6_bitCount_0f7a4_52 : decode cJ6_bitCount_0f7a4 52 = .ok (.ireturn, 1) := by decide +kernel
theorem dJ9_floorMod_7cf53_0 : decode cJ9_floorMod_7cf53 0 = .ok (.iload_n 0, 1) := by decide +kernel
theorem dJ9_floorMod_7cf53_1 : decode cJ9_floorMod_7cf53 1 = .ok (.iload_n 1, 1) := by decide +kernel
theorem dJ9_floorMod_7cf53_2 : decode cJ9_floorMod_7cf53 2 = .ok (.irem, 1) := by decide +kernel
theorem dJ9_floorMod_7cf53_3 : decode cJ9_floorMod_7cf53 3 = .ok (.istore_n 2, 1) := by decide +kernel
theorem dJ9_floorMod_7cf53_4 : decode cJ9_floorMod_7cf53 4 = .ok (.iload_n 0, 1) := by decide +kernel
theorem dJ9_floorMod_7cf53_5 : decode cJ9_floorMod_7cf53 5 = .ok (.iload_n 1, 1) := by decide +kernel
theorem dJ9_floorMod_7cf53_6 : decode cJ9_floorMod_7cf53 6 = .ok (.ixor, 1) := by decide +kernel
theorem dJ9_floorMod_7cf53_7 : decode cJ9_floorMod_7cf53 7 = .ok (.ifCond .ge 11, 3) := by decide +kernel
theorem dJ9_floorMod_7cf53_10 : decode cJ9_floorMod_7cf53 10 = .ok (.iload_n 2, 1) := by decide +kernel
theorem dJ9_floorMod_7cf53_11 : decode cJ9_floorMod_7cf53 11 = .ok (.ifCond .eq 7, 3) := by decide +kernel
theorem dJ9_floorMod_7cf53_14 : decode cJ9_floorMod_7cf53 14 = .ok (.iload_n 2, 1) := by decide +kernel
theorem dJ9_floorMod_7cf53_15 : decode cJ9_floorMod_7cf53 15 = .ok (.iload_n 1, 1) := by decide +kernel
theorem dJ9_floorMod_7cf53_16 : decode cJ9_floorMod_7cf53 16 = .ok (.iadd, 1) := by decide +kernel
theorem dJ9_floorMod_7cf53_17 : decode cJ9_floorMod_7cf53 17 = .ok (.ireturn, 1) := by decide +kernel
theorem dJ9_floorMod_7cf53_18 : decode cJ9_floorMod_7cf53 18 = .ok (.iload_n 2, 1) := by decide +kernel
theorem dJ9_floorMod_7cf53_19 : decode cJ9_floorMod_7cf53 19 = .ok (.ireturn, 1) := by decide +kernel
theorem dJ9_abs_0f7a4_0 : decode cJ9_abs_0f7a4 0 = .ok (.iload_n 0, 1) := by decide +kernel
theorem dJ9_abs_0f7a4_1 : decode cJ9_abs_0f7a4 1 = .ok (.ifCond .ge 8, 3) := by decide +kernel
theorem dJ9_abs_0f7a4_4 : decode cJ9_abs_0f7a4 4 = .ok (.iload_n 0, 1) := by decide +kernel
theorem dJ9_abs_0f7a4_5 : decode cJ9_abs_0f7a4 5 = .ok (.ineg, 1) := by decide +kernel
theorem dJ9_abs_0f7a4_6 : decode cJ9_abs_0f7a4 6 = .ok (.goto 4, 3) := by decide +kernel
theorem dJ9_abs_0f7a4_9 : decode cJ9_abs_0f7a4 9 = .ok (.iload_n 0, 1) := by decide +kernel
theorem dJ9_abs_0f7a4_10 : decode cJ9_abs_0f7a4 10 = .ok (.ireturn, 1) := by decide +kernel
theorem dJ9_abs_067f4_0 : decode cJ9_abs_067f4 0 = .ok (.lload_n 0, 1) := by decide +kernel
theorem dJ9_abs_067f4_1 : decode cJ9_abs_067f4 1 = .ok (.lconst 0, 1) := by decide +kernel
theorem dJ9_abs_067f4_2 : decode cJ9_abs_067f4 2 = .ok (.lcmp, 1) := by decide +kernel
theorem dJ9_abs_067f4_3 : decode cJ9_abs_067f4 3 = .ok (.ifCond .ge 8, 3) := by decide +kernel
theorem dJ9_abs_067f4_6 : decode cJ9_abs_067f4 6 = .ok (.lload_n 0, 1) := by decide +kernel
theorem dJ9_abs_067f4_7 : decode cJ9_abs_067f4 7 = .ok (.lneg, 1) := by decide +kernel
theorem dJ9_abs_067f4_8 : decode cJ9_abs_067f4 8 = .ok (.goto 4, 3) := by decide +kernel
theorem dJ9_abs_067f4_11 : decode cJ9_abs_067f4 11 = .ok (.lload_n 0, 1) := by decide +kernel
theorem dJ9_abs_067f4_12 : decode cJ9_abs_067f4 12 = .ok (.lreturn, 1) := by decide +kernel
theorem dJ9_max_7cf53_0 : decode cJ9_max_7cf53 0 = .ok (.iload_n 0, 1) := by decide +kernel
theorem dJ9_max_7cf53_1 : decode cJ9_max_7cf53 1 = .ok (.iload_n 1, 1) := by decide +kernel
theorem dJ9_max_7cf53_2 : decode cJ9_max_7cf53 2 = .ok (.if_icmp .lt 7, 3) := by decide +kernel
theorem dJ9_max_7cf53_5 : decode cJ9_max_7cf53 5 = .ok (.iload_n 0, 1) := by decide +kernel
theorem dJ9_max_7cf53_6 : decode cJ9_max_7cf53 6 = .ok (.goto 4, 3) := by decide +kernel
theorem dJ9_max_7cf53_9 : decode cJ9_max_7cf53 9 = .ok (.iload_n 1, 1) := by decide +kernel
theorem dJ9_max_7cf53_10 : decode cJ9_max_7cf53 10 = .ok (.ireturn, 1) := by decide +kernel
theorem dJ9_min_7cf53_0 : decode cJ9_min_7cf53 0 = .ok (.iload_n 0, 1) := by decide +kernel
theorem dJ9_min_7cf53_1 : decode cJ9_min_7cf53 1 = .ok (.iload_n 1, 1) := by decide +kernel
theorem dJ9_min_7cf53_2 : decode cJ9_min_7cf53 2 = .ok (.if_icmp .gt 7, 3) := by decide +kernel
theorem dJ9_min_7cf53_5 : decode cJ9_min_7cf53 5 = .ok (.iload_n 0, 1) := by decide +kernel
theorem dJ9_min_7cf53_6 : decode cJ9_min_7cf53 6 = .ok (.goto 4, 3) := by decide +kernel
theorem dJ9_min_7cf53_9 : decode cJ9_min_7cf53 9 = .ok (.iload_n 1, 1) := by decide +kernel
theorem dJ9_min_7cf53_10 : decode cJ9_min_7cf53 10 = .ok (.ireturn, 1) := by decide +kernel
theorem dJ7_fill_53178_0 : decode cJ7_fill_53178 0 = .ok (.iconst 0, 1) := by decide +kernel
theorem dJ7_fill_53178_1 : decode cJ7_fill_53178 1 = .ok (.istore_n 2, 1) := by decide +kernel
theorem dJ7_fill_53178_2 : decode cJ7_fill_53178 2 = .ok (.aload_n 0, 1) := by decide +kernel
theorem dJ7_fill_53178_3 : decode cJ7_fill_53178 3 = .ok (.arraylength, 1) := by decide +kernel
theorem dJ7_fill_53178_4 : decode cJ7_fill_53178 4 = .ok (.istore_n 3, 1) := by decide +kernel
theorem dJ7_fill_53178_5 : decode cJ7_fill_53178 5 = .ok (.iload_n 2, 1) := by decide +kernel
theorem dJ7_fill_53178_6 : decode cJ7_fill_53178 6 = .ok (.iload_n 3, 1) := by decide +kernel
theorem dJ7_fill_53178_7 : decode cJ7_fill_53178 7 = .ok (.if_icmp .ge 13, 3) := by decide +kernel
theorem dJ7_fill_53178_10 : decode cJ7_fill_53178 10 = .ok (.aload_n 0, 1) := by decide +kernel
theorem dJ7_fill_53178_11 : decode cJ7_fill_53178 11 = .ok (.iload_n 2, 1) := by decide +kernel
theorem dJ7_fill_53178_12 : decode cJ7_fill_53178 12 = .ok (.iload_n 1, 1) := by decide +kernel
theorem dJ7_fill_53178_13 : decode cJ7_fill_53178 13 = .ok (.iastore, 1) := by decide +kernel
theorem dJ7_fill_53178_14 : decode cJ7_fill_53178 14 = .ok (.iinc 2 1, 3) := by decide +kernel
theorem dJ7_fill_53178_17 : decode cJ7_fill_53178 17 = .ok (.goto (-12), 3) := by decide +kernel
theorem dJ7_fill_53178_20 : decode cJ7_fill_53178 20 = .ok (.return_, 1) := by decide +kernel
end
section
theorem dL_at_0 : decode cL_at 0 = .ok (.aload_n 3, 1) := by decide +kernel
theorem dL_at_1 : decode cL_at 1 = .ok (.iconst 0, 1) := by decide +kernel
theorem dL_at_2 : decode cL_at 2 = .ok (.aload_n 0, 1) := by decide +kernel
theorem dL_at_3 : decode cL_at 3 = .ok (.iload_n 1, 1) := by decide +kernel
theorem dL_at_4 : decode cL_at 4 = .ok (.iload_n 2, 1) := by decide +kernel
theorem dL_at_5 : decode cL_at 5 = .ok (.invokevirtual 7, 3) := by decide +kernel
theorem dL_at_8 : decode cL_at 8 = .ok (.i2l, 1) := by decide +kernel
theorem dL_at_9 : decode cL_at 9 = .ok (.lastore, 1) := by decide +kernel
theorem dL_at_10 : decode cL_at 10 = .ok (.goto 7, 3) := by decide +kernel
theorem dL_at_13 : decode cL_at 13 = .ok (.astore 4, 2) := by decide +kernel
theorem dL_at_15 : decode cL_at 15 = .ok (.iconst 1, 1) := by decide +kernel
theorem dL_at_16 : decode cL_at 16 = .ok (.ireturn, 1) := by decide +kernel
theorem dL_at_17 : decode cL_at 17 = .ok (.iconst 0, 1) := by decide +kernel
theorem dL_at_18 : decode cL_at 18 = .ok (.ireturn, 1) := by decide +kernel
theorem dL_law_0 : decode cL_law 0 = .ok (.new 8, 3) := by decide +kernel
theorem dL_law_3 : decode cL_law 3 = .ok (.dup, 1) := by decide +kernel
theorem dL_law_4 : decode cL_law 4 = .ok (.invokespecial 15, 3) := by decide +kernel
theorem dL_law_7 : decode cL_law 7 = .ok (.astore_n 1, 1) := by decide +kernel
theorem dL_law_8 : decode cL_law 8 = .ok (.new 16, 3) := by decide +kernel
theorem dL_law_11 : decode cL_law 11 = .ok (.dup, 1) := by decide +kernel
theorem dL_law_12 : decode cL_law 12 = .ok (.invokespecial 18, 3) := by decide +kernel
theorem dL_law_15 : decode cL_law 15 = .ok (.astore_n 2, 1) := by decide +kernel
theorem dL_law_16 : decode cL_law 16 = .ok (.iconst 1, 1) := by decide +kernel
theorem dL_law_17 : decode cL_law 17 = .ok (.newarray .long, 2) := by decide +kernel
theorem dL_law_19 : decode cL_law 19 = .ok (.astore_n 3, 1) := by decide +kernel
theorem dL_law_20 : decode cL_law 20 = .ok (.iconst 0, 1) := by decide +kernel
theorem dL_law_21 : decode cL_law 21 = .ok (.istore 4, 2) := by decide +kernel
theorem dL_law_23 : decode cL_law 23 = .ok (.iload 4, 2) := by decide +kernel
theorem dL_law_25 : decode cL_law 25 = .ok (.aload_n 0, 1) := by decide +kernel
theorem dL_law_26 : decode cL_law 26 = .ok (.arraylength, 1) := by decide +kernel
theorem dL_law_27 : decode cL_law 27 = .ok (.iconst 5, 1) := by decide +kernel
theorem dL_law_28 : decode cL_law 28 = .ok (.isub, 1) := by decide +kernel
theorem dL_law_29 : decode cL_law 29 = .ok (.if_icmp .gt 1085, 3) := by decide +kernel
theorem dL_law_32 : decode cL_law 32 = .ok (.aload_n 0, 1) := by decide +kernel
theorem dL_law_33 : decode cL_law 33 = .ok (.iload 4, 2) := by decide +kernel
theorem dL_law_35 : decode cL_law 35 = .ok (.iaload, 1) := by decide +kernel
theorem dL_law_36 : decode cL_law 36 = .ok (.bipush 63, 2) := by decide +kernel
theorem dL_law_38 : decode cL_law 38 = .ok (.iand, 1) := by decide +kernel
theorem dL_law_39 : decode cL_law 39 = .ok (.tableswitch 1069 0 33 #[149, 174, 211, 248, 273, 322, 347, 415, 440, 465, 478, 503, 516, 541, 554, 615, 640, 665, 690, 704, 730, 756, 769, 782, 795, 808, 833, 870, 907, 920, 957, 994, 1031, 1056], 149) := by decide +kernel
theorem dL_law_188 : decode cL_law 188 = .ok (.aload_n 1, 1) := by decide +kernel
theorem dL_law_189 : decode cL_law 189 = .ok (.aload_n 0, 1) := by decide +kernel
theorem dL_law_190 : decode cL_law 190 = .ok (.iload 4, 2) := by decide +kernel
theorem dL_law_192 : decode cL_law 192 = .ok (.iconst 1, 1) := by decide +kernel
theorem dL_law_193 : decode cL_law 193 = .ok (.iadd, 1) := by decide +kernel
theorem dL_law_194 : decode cL_law 194 = .ok (.iaload, 1) := by decide +kernel
theorem dL_law_195 : decode cL_law 195 = .ok (.invokevirtual 19, 3) := by decide +kernel
theorem dL_law_198 : decode cL_law 198 = .ok (.aload_n 2, 1) := by decide +kernel
theorem dL_law_199 : decode cL_law 199 = .ok (.aload_n 0, 1) := by decide +kernel
theorem dL_law_200 : decode cL_law 200 = .ok (.iload 4, 2) := by decide +kernel
theorem dL_law_202 : decode cL_law 202 = .ok (.iconst 1, 1) := by decide +kernel
theorem dL_law_203 : decode cL_law 203 = .ok (.iadd, 1) := by decide +kernel
theorem dL_law_204 : decode cL_law 204 = .ok (.iaload, 1) := by decide +kernel
theorem dL_law_205 : decode cL_law 205 = .ok (.invokevirtual 23, 3) := by decide +kernel
theorem dL_law_208 : decode cL_law 208 = .ok (.if_icmp .eq 900, 3) := by decide +kernel
theorem dL_law_211 : decode cL_law 211 = .ok (.iconst 0, 1) := by decide +kernel
theorem dL_law_212 : decode cL_law 212 = .ok (.ireturn, 1) := by decide +kernel
theorem dL_law_213 : decode cL_law 213 = .ok (.aload_n 1, 1) := by decide +kernel
theorem dL_law_214 : decode cL_law 214 = .ok (.aload_n 0, 1) := by decide +kernel
theorem dL_law_215 : decode cL_law 215 = .ok (.iload 4, 2) := by decide +kernel
theorem dL_law_217 : decode cL_law 217 = .ok (.iconst 1, 1) := by decide +kernel
theorem dL_law_218 : decode cL_law 218 = .ok (.iadd, 1) := by decide +kernel
theorem dL_law_219 : decode cL_law 219 = .ok (.iaload, 1) := by decide +kernel
theorem dL_law_220 : decode cL_law 220 = .ok (.aload_n 0, 1) := by decide +kernel
theorem dL_law_221 : decode cL_law 221 = .ok (.iload 4, 2) := by decide +kernel
theorem dL_law_223 : decode cL_law 223 = .ok (.iconst 2, 1) := by decide +kernel
theorem dL_law_224 : decode cL_law 224 = .ok (.iadd, 1) := by decide +kernel
theorem dL_law_225 : decode cL_law 225 = .ok (.iaload, 1) := by decide +kernel
theorem dL_law_226 : decode cL_law 226 = .ok (.invokevirtual 24, 3) := by decide +kernel
theorem dL_law_229 : decode cL_law 229 = .ok (.aload_n 2, 1) := by decide +kernel
theorem dL_law_230 : decode cL_law 230 = .ok (.aload_n 0, 1) := by decide +kernel
theorem dL_law_231 : decode cL_law 231 = .ok (.iload 4, 2) := by decide +kernel
theorem dL_law_233 : decode cL_law 233 = .ok (.iconst 1, 1) := by decide +kernel
theorem dL_law_234 : decode cL_law 234 = .ok (.iadd, 1) := by decide +kernel
theorem dL_law_235 : decode cL_law 235 = .ok (.iaload, 1) := by decide +kernel
theorem dL_law_236 : decode cL_law 236 = .ok (.aload_n 0, 1) := by decide +kernel
theorem dL_law_237 : decode cL_law 237 = .ok (.iload 4, 2) := by decide +kernel
theorem dL_law_239 : decode cL_law 239 = .ok (.iconst 2, 1) := by decide +kernel
theorem dL_law_240 : decode cL_law 240 = .ok (.iadd, 1) := by decide +kernel
theorem dL_law_241 : decode cL_law 241 = .ok (.iaload, 1) := by decide +kernel
theorem dL_law_242 : decode cL_law 242 = .ok (.invokevirtual 27, 3) := by decide +kernel
theorem dL_law_245 : decode cL_law 245 = .ok (.if_icmp .eq 863, 3) := by decide +kernel
theorem dL_law_248 : decode cL_law 248 = .ok (.iconst 0, 1) := by decide +kernel
theorem dL_law_249 : decode cL_law 249 = .ok (.ireturn, 1) := by decide +kernel
theorem dL_law_250 : decode cL_law 250 = .ok (.aload_n 1, 1) := by decide +kernel
theorem dL_law_251 : decode cL_law 251 = .ok (.aload_n 0, 1) := by decide +kernel
theorem dL_law_252 : decode cL_law 252 = .ok (.iload 4, 2) := by decide +kernel
theorem dL_law_254 : decode cL_law 254 = .ok (.iconst 1, 1) := by decide +kernel
theorem dL_law_255 : decode cL_law 255 = .ok (.iadd, 1) := by decide +kernel
theorem dL_law_256 : decode cL_law 256 = .ok (.iaload, 1) := by decide +kernel
theorem dL_law_257 : decode cL_law 257 = .ok (.aload_n 0, 1) := by decide +kernel
theorem dL_law_258 : decode cL_law 258 = .ok (.iload 4, 2) := by decide +kernel
theorem dL_law_260 : decode cL_law 260 = .ok (.iconst 2, 1) := by decide +kernel
theorem dL_law_261 : decode cL_law 261 = .ok (.iadd, 1) := by decide +kernel
theorem dL_law_262 : decode cL_law 262 = .ok (.iaload, 1) := by decide +kernel
theorem dL_law_263 : decode cL_law 263 = .ok (.invokevirtual 28, 3) := by decide +kernel
theorem dL_law_266 : decode cL_law 266 = .ok (.aload_n 2, 1) := by decide +kernel
theorem dL_law_267 : decode cL_law 267 = .ok (.aload_n 0, 1) := by decide +kernel
theorem dL_law_268 : decode cL_law 268 = .ok (.iload 4, 2) := by decide +kernel
theorem dL_law_270 : decode cL_law 270 = .ok (.iconst 1, 1) := by decide +kernel
theorem dL_law_271 : decode cL_law 271 = .ok (.iadd, 1) := by decide +kernel
theorem dL_law_272 : decode cL_law 272 = .ok (.iaload, 1) := by decide +kernel
theorem dL_law_273 : decode cL_law 273 = .ok (.aload_n 0, 1) := by decide +kernel
theorem dL_law_274 : decode cL_law 274 = .ok (.iload 4, 2) := by decide +kernel
theorem dL_law_276 : decode cL_law 276 = .ok (.iconst 2, 1) := by decide +kernel
theorem dL_law_277 : decode cL_law 277 = .ok (.iadd, 1) := by decide +kernel
theorem dL_law_278 : decode cL_law 278 = .ok (.iaload, 1) := by decide +kernel
theorem dL_law_279 : decode cL_law 279 = .ok (.invokevirtual 32, 3) := by decide +kernel
theorem dL_law_282 : decode cL_law 282 = .ok (.if_icmp .eq 826, 3) := by decide +kernel
theorem dL_law_285 : decode cL_law 285 = .ok (.iconst 0, 1) := by decide +kernel
theorem dL_law_286 : decode cL_law 286 = .ok (.ireturn, 1) := by decide +kernel
theorem dL_law_287 : decode cL_law 287 = .ok (.aload_n 1, 1) := by decide +kernel
theorem dL_law_288 : decode cL_law 288 = .ok (.aload_n 0, 1) := by decide +kernel
theorem dL_law_289 : decode cL_law 289 = .ok (.iload 4, 2) := by decide +kernel
theorem dL_law_291 : decode cL_law 291 = .ok (.iconst 1, 1) := by decide +kernel
theorem dL_law_292 : decode cL_law 292 = .ok (.iadd, 1) := by decide +kernel
theorem dL_law_293 : decode cL_law 293 = .ok (.iaload, 1) := by decide +kernel
theorem dL_law_294 : decode cL_law 294 = .ok (.invokevirtual 33, 3) := by decide +kernel
theorem dL_law_297 : decode cL_law 297 = .ok (.aload_n 2, 1) := by decide +kernel
theorem dL_law_298 : decode cL_law 298 = .ok (.aload_n 0, 1) := by decide +kernel
theorem dL_law_299 : decode cL_law 299 = .ok (.iload 4, 2) := by decide +kernel
theorem dL_law_301 : decode cL_law 301 = .ok (.iconst 1, 1) := by decide +kernel
theorem dL_law_302 : decode cL_law 302 = .ok (.iadd, 1) := by decide +kernel
theorem dL_law_303 : decode cL_law 303 = .ok (.iaload, 1) := by decide +kernel
theorem dL_law_304 : decode cL_law 304 = .ok (.invokevirtual 36, 3) := by decide +kernel
theorem dL_law_307 : decode cL_law 307 = .ok (.if_icmp .eq 801, 3) := by decide +kernel
theorem dL_law_310 : decode cL_law 310 = .ok (.iconst 0, 1) := by decide +kernel
theorem dL_law_311 : decode cL_law 311 = .ok (.ireturn, 1) := by decide +kernel
theorem dL_law_312 : decode cL_law 312 = .ok (.aload_n 1, 1) := by decide +kernel
theorem dL_law_313 : decode cL_law 313 = .ok (.aload_n 0, 1) := by decide +kernel
theorem dL_law_314 : decode cL_law 314 = .ok (.iload 4, 2) := by decide +kernel
theorem dL_law_316 : decode cL_law 316 = .ok (.iconst 1, 1) := by decide +kernel
theorem dL_law_317 : decode cL_law 317 = .ok (.iadd, 1) := by decide +kernel
theorem dL_law_318 : decode cL_law 318 = .ok (.iaload, 1) := by decide +kernel
theorem dL_law_319 : decode cL_law 319 = .ok (.aload_n 0, 1) := by decide +kernel
theorem dL_law_320 : decode cL_law 320 = .ok (.iload 4, 2) := by decide +kernel
theorem dL_law_322 : decode cL_law 322 = .ok (.iconst 2, 1) := by decide +kernel
theorem dL_law_323 : decode cL_law 323 = .ok (.iadd, 1) := by decide +kernel
theorem dL_law_324 : decode cL_law 324 = .ok (.iaload, 1) := by decide +kernel
theorem dL_law_325 : decode cL_law 325 = .ok (.aload_n 0, 1) := by decide +kernel
theorem dL_law_326 : decode cL_law 326 = .ok (.iload 4, 2) := by decide +kernel
theorem dL_law_328 : decode cL_law 328 = .ok (.iconst 3, 1) := by decide +kernel
theorem dL_law_329 : decode cL_law 329 = .ok (.iadd, 1) := by decide +kernel
theorem dL_law_330 : decode cL_law 330 = .ok (.iaload, 1) := by decide +kernel
theorem dL_law_331 : decode cL_law 331 = .ok (.invokevirtual 37, 3) := by decide +kernel
theorem dL_law_334 : decode cL_law 334 = .ok (.aload_n 2, 1) := by decide +kernel
theorem dL_law_335 : decode cL_law 335 = .ok (.aload_n 0, 1) := by decide +kernel
theorem dL_law_336 : decode cL_law 336 = .ok (.iload 4, 2) := by decide +kernel
theorem dL_law_338 : decode cL_law 338 = .ok (.iconst 1, 1) := by decide +kernel
theorem dL_law_339 : decode cL_law 339 = .ok (.iadd, 1) := by decide +kernel
theorem dL_law_340 : decode cL_law 340 = .ok (.iaload, 1) := by decide +kernel
theorem dL_law_341 : decode cL_law 341 = .ok (.aload_n 0, 1) := by decide +kernel
theorem dL_law_342 : decode cL_law 342 = .ok (.iload 4, 2) := by decide +kernel
theorem dL_law_344 : decode cL_law 344 = .ok (.iconst 2, 1) := by decide +kernel
theorem dL_law_345 : decode cL_law 345 = .ok (.iadd, 1) := by decide +kernel
theorem dL_law_346 : decode cL_law 346 = .ok (.iaload, 1) := by decide +kernel
theorem dL_law_347 : decode cL_law 347 = .ok (.aload_n 0, 1) := by decide +kernel
theorem dL_law_348 : decode cL_law 348 = .ok (.iload 4, 2) := by decide +kernel
theorem dL_law_350 : decode cL_law 350 = .ok (.iconst 3, 1) := by decide +kernel
theorem dL_law_351 : decode cL_law 351 = .ok (.iadd, 1) := by decide +kernel
theorem dL_law_352 : decode cL_law 352 = .ok (.iaload, 1) := by decide +kernel
theorem dL_law_353 : decode cL_law 353 = .ok (.invokevirtual 41, 3) := by decide +kernel
theorem dL_law_356 : decode cL_law 356 = .ok (.if_icmp .eq 752, 3) := by decide +kernel
theorem dL_law_359 : decode cL_law 359 = .ok (.iconst 0, 1) := by decide +kernel
theorem dL_law_360 : decode cL_law 360 = .ok (.ireturn, 1) := by decide +kernel
theorem dL_law_361 : decode cL_law 361 = .ok (.aload_n 1, 1) := by decide +kernel
theorem dL_law_362 : decode cL_law 362 = .ok (.aload_n 0, 1) := by decide +kernel
theorem dL_law_363 : decode cL_law 363 = .ok (.iload 4, 2) := by decide +kernel
theorem dL_law_365 : decode cL_law 365 = .ok (.iconst 1, 1) := by decide +kernel
theorem dL_law_366 : decode cL_law 366 = .ok (.iadd, 1) := by decide +kernel
theorem dL_law_367 : decode cL_law 367 = .ok (.iaload, 1) := by decide +kernel
theorem dL_law_368 : decode cL_law 368 = .ok (.invokevirtual 42, 3) := by decide +kernel
theorem dL_law_371 : decode cL_law 371 = .ok (.aload_n 2, 1) := by decide +kernel
theorem dL_law_372 : decode cL_law 372 = .ok (.aload_n 0, 1) := by decide +kernel
theorem dL_law_373 : decode cL_law 373 = .ok (.iload 4, 2) := by decide +kernel
theorem dL_law_375 : decode cL_law 375 = .ok (.iconst 1, 1) := by decide +kernel
theorem dL_law_376 : decode cL_law 376 = .ok (.iadd, 1) := by decide +kernel
theorem dL_law_377 : decode cL_law 377 = .ok (.iaload, 1) := by decide +kernel
theorem dL_law_378 : decode cL_law 378 = .ok (.invokevirtual 45, 3) := by decide +kernel
theorem dL_law_381 : decode cL_law 381 = .ok (.if_icmp .eq 727, 3) := by decide +kernel
theorem dL_law_384 : decode cL_law 384 = .ok (.iconst 0, 1) := by decide +kernel
theorem dL_law_385 : decode cL_law 385 = .ok (.ireturn, 1) := by decide +kernel
theorem dL_law_386 : decode cL_law 386 = .ok (.aload_n 1, 1) := by decide +kernel
theorem dL_law_387 : decode cL_law 387 = .ok (.aload_n 0, 1) := by decide +kernel
theorem dL_law_388 : decode cL_law 388 = .ok (.iload 4, 2) := by decide +kernel
theorem dL_law_390 : decode cL_law 390 = .ok (.iconst 1, 1) := by decide +kernel
theorem dL_law_391 : decode cL_law 391 = .ok (.iadd, 1) := by decide +kernel
theorem dL_law_392 : decode cL_law 392 = .ok (.iaload, 1) := by decide +kernel
theorem dL_law_393 : decode cL_law 393 = .ok (.aload_n 0, 1) := by decide +kernel
theorem dL_law_394 : decode cL_law 394 = .ok (.iload 4, 2) := by decide +kernel
theorem dL_law_396 : decode cL_law 396 = .ok (.iconst 2, 1) := by decide +kernel
theorem dL_law_397 : decode cL_law 397 = .ok (.iadd, 1) := by decide +kernel
theorem dL_law_398 : decode cL_law 398 = .ok (.iaload, 1) := by decide +kernel
theorem dL_law_399 : decode cL_law 399 = .ok (.aload_n 3, 1) := by decide +kernel
theorem dL_law_400 : decode cL_law 400 = .ok (.invokestatic 46, 3) := by decide +kernel
theorem dL_law_403 : decode cL_law 403 = .ok (.istore 5, 2) := by decide +kernel
theorem dL_law_405 : decode cL_law 405 = .ok (.aload_n 2, 1) := by decide +kernel
theorem dL_law_406 : decode cL_law 406 = .ok (.aload_n 0, 1) := by decide +kernel
theorem dL_law_407 : decode cL_law 407 = .ok (.iload 4, 2) := by decide +kernel
theorem dL_law_409 : decode cL_law 409 = .ok (.iconst 1, 1) := by decide +kernel
theorem dL_law_410 : decode cL_law 410 = .ok (.iadd, 1) := by decide +kernel
theorem dL_law_411 : decode cL_law 411 = .ok (.iaload, 1) := by decide +kernel
theorem dL_law_412 : decode cL_law 412 = .ok (.aload_n 0, 1) := by decide +kernel
theorem dL_law_413 : decode cL_law 413 = .ok (.iload 4, 2) := by decide +kernel
theorem dL_law_415 : decode cL_law 415 = .ok (.iconst 2, 1) := by decide +kernel
theorem dL_law_416 : decode cL_law 416 = .ok (.iadd, 1) := by decide +kernel
theorem dL_law_417 : decode cL_law 417 = .ok (.iaload, 1) := by decide +kernel
theorem dL_law_418 : decode cL_law 418 = .ok (.invokevirtual 51, 3) := by decide +kernel
theorem dL_law_421 : decode cL_law 421 = .ok (.istore 6, 2) := by decide +kernel
theorem dL_law_423 : decode cL_law 423 = .ok (.aload_n 2, 1) := by decide +kernel
theorem dL_law_424 : decode cL_law 424 = .ok (.invokevirtual 52, 3) := by decide +kernel
theorem dL_law_427 : decode cL_law 427 = .ok (.iload 5, 2) := by decide +kernel
theorem dL_law_429 : decode cL_law 429 = .ok (.if_icmp .eq 5, 3) := by decide +kernel
theorem dL_law_432 : decode cL_law 432 = .ok (.iconst 0, 1) := by decide +kernel
theorem dL_law_433 : decode cL_law 433 = .ok (.ireturn, 1) := by decide +kernel
theorem dL_law_434 : decode cL_law 434 = .ok (.iload 5, 2) := by decide +kernel
theorem dL_law_436 : decode cL_law 436 = .ok (.ifCond .ne 15, 3) := by decide +kernel
theorem dL_law_439 : decode cL_law 439 = .ok (.aload_n 3, 1) := by decide +kernel
theorem dL_law_440 : decode cL_law 440 = .ok (.iconst 0, 1) := by decide +kernel
theorem dL_law_441 : decode cL_law 441 = .ok (.laload, 1) := by decide +kernel
theorem dL_law_442 : decode cL_law 442 = .ok (.iload 6, 2) := by decide +kernel
theorem dL_law_444 : decode cL_law 444 = .ok (.i2l, 1) := by decide +kernel
theorem dL_law_445 : decode cL_law 445 = .ok (.lcmp, 1) := by decide +kernel
theorem dL_law_446 : decode cL_law 446 = .ok (.ifCond .eq 5, 3) := by decide +kernel
theorem dL_law_449 : decode cL_law 449 = .ok (.iconst 0, 1) := by decide +kernel
theorem dL_law_450 : decode cL_law 450 = .ok (.ireturn, 1) := by decide +kernel
theorem dL_law_451 : decode cL_law 451 = .ok (.goto 657, 3) := by decide +kernel
theorem dL_law_454 : decode cL_law 454 = .ok (.aload_n 1, 1) := by decide +kernel
theorem dL_law_455 : decode cL_law 455 = .ok (.aload_n 0, 1) := by decide +kernel
theorem dL_law_456 : decode cL_law 456 = .ok (.iload 4, 2) := by decide +kernel
theorem dL_law_458 : decode cL_law 458 = .ok (.iconst 1, 1) := by decide +kernel
theorem dL_law_459 : decode cL_law 459 = .ok (.iadd, 1) := by decide +kernel
theorem dL_law_460 : decode cL_law 460 = .ok (.iaload, 1) := by decide +kernel
theorem dL_law_461 : decode cL_law 461 = .ok (.invokevirtual 56, 3) := by decide +kernel
theorem dL_law_464 : decode cL_law 464 = .ok (.aload_n 2, 1) := by decide +kernel
theorem dL_law_465 : decode cL_law 465 = .ok (.aload_n 0, 1) := by decide +kernel
theorem dL_law_466 : decode cL_law 466 = .ok (.iload 4, 2) := by decide +kernel
theorem dL_law_468 : decode cL_law 468 = .ok (.iconst 1, 1) := by decide +kernel
theorem dL_law_469 : decode cL_law 469 = .ok (.iadd, 1) := by decide +kernel
theorem dL_law_470 : decode cL_law 470 = .ok (.iaload, 1) := by decide +kernel
theorem dL_law_471 : decode cL_law 471 = .ok (.invokevirtual 60, 3) := by decide +kernel
theorem dL_law_474 : decode cL_law 474 = .ok (.if_icmp .eq 634, 3) := by decide +kernel
theorem dL_law_477 : decode cL_law 477 = .ok (.iconst 0, 1) := by decide +kernel
theorem dL_law_478 : decode cL_law 478 = .ok (.ireturn, 1) := by decide +kernel
theorem dL_law_479 : decode cL_law 479 = .ok (.aload_n 1, 1) := by decide +kernel
theorem dL_law_480 : decode cL_law 480 = .ok (.aload_n 0, 1) := by decide +kernel
theorem dL_law_481 : decode cL_law 481 = .ok (.iload 4, 2) := by decide +kernel
theorem dL_law_483 : decode cL_law 483 = .ok (.iconst 1, 1) := by decide +kernel
theorem dL_law_484 : decode cL_law 484 = .ok (.iadd, 1) := by decide +kernel
theorem dL_law_485 : decode cL_law 485 = .ok (.iaload, 1) := by decide +kernel
theorem dL_law_486 : decode cL_law 486 = .ok (.invokevirtual 61, 3) := by decide +kernel
theorem dL_law_489 : decode cL_law 489 = .ok (.aload_n 2, 1) := by decide +kernel
theorem dL_law_490 : decode cL_law 490 = .ok (.aload_n 0, 1) := by decide +kernel
theorem dL_law_491 : decode cL_law 491 = .ok (.iload 4, 2) := by decide +kernel
theorem dL_law_493 : decode cL_law 493 = .ok (.iconst 1, 1) := by decide +kernel
theorem dL_law_494 : decode cL_law 494 = .ok (.iadd, 1) := by decide +kernel
theorem dL_law_495 : decode cL_law 495 = .ok (.iaload, 1) := by decide +kernel
theorem dL_law_496 : decode cL_law 496 = .ok (.invokevirtual 64, 3) := by decide +kernel
theorem dL_law_499 : decode cL_law 499 = .ok (.if_icmp .eq 609, 3) := by decide +kernel
theorem dL_law_502 : decode cL_law 502 = .ok (.iconst 0, 1) := by decide +kernel
theorem dL_law_503 : decode cL_law 503 = .ok (.ireturn, 1) := by decide +kernel
theorem dL_law_504 : decode cL_law 504 = .ok (.aload_n 1, 1) := by decide +kernel
theorem dL_law_505 : decode cL_law 505 = .ok (.invokevirtual 65, 3) := by decide +kernel
theorem dL_law_508 : decode cL_law 508 = .ok (.aload_n 2, 1) := by decide +kernel
theorem dL_law_509 : decode cL_law 509 = .ok (.invokevirtual 69, 3) := by decide +kernel
theorem dL_law_512 : decode cL_law 512 = .ok (.if_icmp .eq 596, 3) := by decide +kernel
theorem dL_law_515 : decode cL_law 515 = .ok (.iconst 0, 1) := by decide +kernel
theorem dL_law_516 : decode cL_law 516 = .ok (.ireturn, 1) := by decide +kernel
theorem dL_law_517 : decode cL_law 517 = .ok (.aload_n 1, 1) := by decide +kernel
theorem dL_law_518 : decode cL_law 518 = .ok (.aload_n 0, 1) := by decide +kernel
theorem dL_law_519 : decode cL_law 519 = .ok (.iload 4, 2) := by decide +kernel
theorem dL_law_521 : decode cL_law 521 = .ok (.iconst 1, 1) := by decide +kernel
theorem dL_law_522 : decode cL_law 522 = .ok (.iadd, 1) := by decide +kernel
theorem dL_law_523 : decode cL_law 523 = .ok (.iaload, 1) := by decide +kernel
theorem dL_law_524 : decode cL_law 524 = .ok (.invokevirtual 70, 3) := by decide +kernel
theorem dL_law_527 : decode cL_law 527 = .ok (.aload_n 2, 1) := by decide +kernel
theorem dL_law_528 : decode cL_law 528 = .ok (.aload_n 0, 1) := by decide +kernel
theorem dL_law_529 : decode cL_law 529 = .ok (.iload 4, 2) := by decide +kernel
theorem dL_law_531 : decode cL_law 531 = .ok (.iconst 1, 1) := by decide +kernel
theorem dL_law_532 : decode cL_law 532 = .ok (.iadd, 1) := by decide +kernel
theorem dL_law_533 : decode cL_law 533 = .ok (.iaload, 1) := by decide +kernel
theorem dL_law_534 : decode cL_law 534 = .ok (.invokevirtual 73, 3) := by decide +kernel
theorem dL_law_537 : decode cL_law 537 = .ok (.if_icmp .eq 571, 3) := by decide +kernel
theorem dL_law_540 : decode cL_law 540 = .ok (.iconst 0, 1) := by decide +kernel
theorem dL_law_541 : decode cL_law 541 = .ok (.ireturn, 1) := by decide +kernel
theorem dL_law_542 : decode cL_law 542 = .ok (.aload_n 1, 1) := by decide +kernel
theorem dL_law_543 : decode cL_law 543 = .ok (.invokevirtual 74, 3) := by decide +kernel
theorem dL_law_546 : decode cL_law 546 = .ok (.aload_n 2, 1) := by decide +kernel
theorem dL_law_547 : decode cL_law 547 = .ok (.invokevirtual 77, 3) := by decide +kernel
theorem dL_law_550 : decode cL_law 550 = .ok (.if_icmp .eq 558, 3) := by decide +kernel
theorem dL_law_553 : decode cL_law 553 = .ok (.iconst 0, 1) := by decide +kernel
theorem dL_law_554 : decode cL_law 554 = .ok (.ireturn, 1) := by decide +kernel
theorem dL_law_555 : decode cL_law 555 = .ok (.aload_n 1, 1) := by decide +kernel
theorem dL_law_556 : decode cL_law 556 = .ok (.aload_n 0, 1) := by decide +kernel
theorem dL_law_557 : decode cL_law 557 = .ok (.iload 4, 2) := by decide +kernel
theorem dL_law_559 : decode cL_law 559 = .ok (.iconst 1, 1) := by decide +kernel
theorem dL_law_560 : decode cL_law 560 = .ok (.iadd, 1) := by decide +kernel
theorem dL_law_561 : decode cL_law 561 = .ok (.iaload, 1) := by decide +kernel
theorem dL_law_562 : decode cL_law 562 = .ok (.invokevirtual 78, 3) := by decide +kernel
theorem dL_law_565 : decode cL_law 565 = .ok (.aload_n 2, 1) := by decide +kernel
theorem dL_law_566 : decode cL_law 566 = .ok (.aload_n 0, 1) := by decide +kernel
theorem dL_law_567 : decode cL_law 567 = .ok (.iload 4, 2) := by decide +kernel
theorem dL_law_569 : decode cL_law 569 = .ok (.iconst 1, 1) := by decide +kernel
theorem dL_law_570 : decode cL_law 570 = .ok (.iadd, 1) := by decide +kernel
theorem dL_law_571 : decode cL_law 571 = .ok (.iaload, 1) := by decide +kernel
theorem dL_law_572 : decode cL_law 572 = .ok (.invokevirtual 81, 3) := by decide +kernel
theorem dL_law_575 : decode cL_law 575 = .ok (.if_icmp .eq 533, 3) := by decide +kernel
theorem dL_law_578 : decode cL_law 578 = .ok (.iconst 0, 1) := by decide +kernel
theorem dL_law_579 : decode cL_law 579 = .ok (.ireturn, 1) := by decide +kernel
theorem dL_law_580 : decode cL_law 580 = .ok (.aload_n 1, 1) := by decide +kernel
theorem dL_law_581 : decode cL_law 581 = .ok (.invokevirtual 82, 3) := by decide +kernel
theorem dL_law_584 : decode cL_law 584 = .ok (.aload_n 2, 1) := by decide +kernel
theorem dL_law_585 : decode cL_law 585 = .ok (.invokevirtual 85, 3) := by decide +kernel
theorem dL_law_588 : decode cL_law 588 = .ok (.if_icmp .eq 520, 3) := by decide +kernel
theorem dL_law_591 : decode cL_law 591 = .ok (.iconst 0, 1) := by decide +kernel
theorem dL_law_592 : decode cL_law 592 = .ok (.ireturn, 1) := by decide +kernel
theorem dL_law_593 : decode cL_law 593 = .ok (.aload_n 1, 1) := by decide +kernel
theorem dL_law_594 : decode cL_law 594 = .ok (.aload_n 0, 1) := by decide +kernel
theorem dL_law_595 : decode cL_law 595 = .ok (.iload 4, 2) := by decide +kernel
theorem dL_law_597 : decode cL_law 597 = .ok (.iconst 1, 1) := by decide +kernel
theorem dL_law_598 : decode cL_law 598 = .ok (.iadd, 1) := by decide +kernel
theorem dL_law_599 : decode cL_law 599 = .ok (.iaload, 1) := by decide +kernel
theorem dL_law_600 : decode cL_law 600 = .ok (.aload_n 0, 1) := by decide +kernel
theorem dL_law_601 : decode cL_law 601 = .ok (.iload 4, 2) := by decide +kernel
theorem dL_law_603 : decode cL_law 603 = .ok (.iconst 2, 1) := by decide +kernel
theorem dL_law_604 : decode cL_law 604 = .ok (.iadd, 1) := by decide +kernel
theorem dL_law_605 : decode cL_law 605 = .ok (.iaload, 1) := by decide +kernel
theorem dL_law_606 : decode cL_law 606 = .ok (.aload_n 0, 1) := by decide +kernel
theorem dL_law_607 : decode cL_law 607 = .ok (.iload 4, 2) := by decide +kernel
theorem dL_law_609 : decode cL_law 609 = .ok (.iconst 3, 1) := by decide +kernel
theorem dL_law_610 : decode cL_law 610 = .ok (.iadd, 1) := by decide +kernel
theorem dL_law_611 : decode cL_law 611 = .ok (.iaload, 1) := by decide +kernel
theorem dL_law_612 : decode cL_law 612 = .ok (.aload_n 0, 1) := by decide +kernel
theorem dL_law_613 : decode cL_law 613 = .ok (.iload 4, 2) := by decide +kernel
theorem dL_law_615 : decode cL_law 615 = .ok (.iconst 4, 1) := by decide +kernel
theorem dL_law_616 : decode cL_law 616 = .ok (.iadd, 1) := by decide +kernel
theorem dL_law_617 : decode cL_law 617 = .ok (.iaload, 1) := by decide +kernel
theorem dL_law_618 : decode cL_law 618 = .ok (.invokevirtual 86, 3) := by decide +kernel
theorem dL_law_621 : decode cL_law 621 = .ok (.aload_n 2, 1) := by decide +kernel
theorem dL_law_622 : decode cL_law 622 = .ok (.aload_n 0, 1) := by decide +kernel
theorem dL_law_623 : decode cL_law 623 = .ok (.iload 4, 2) := by decide +kernel
theorem dL_law_625 : decode cL_law 625 = .ok (.iconst 1, 1) := by decide +kernel
theorem dL_law_626 : decode cL_law 626 = .ok (.iadd, 1) := by decide +kernel
theorem dL_law_627 : decode cL_law 627 = .ok (.iaload, 1) := by decide +kernel
theorem dL_law_628 : decode cL_law 628 = .ok (.aload_n 0, 1) := by decide +kernel
theorem dL_law_629 : decode cL_law 629 = .ok (.iload 4, 2) := by decide +kernel
theorem dL_law_631 : decode cL_law 631 = .ok (.iconst 2, 1) := by decide +kernel
theorem dL_law_632 : decode cL_law 632 = .ok (.iadd, 1) := by decide +kernel
theorem dL_law_633 : decode cL_law 633 = .ok (.iaload, 1) := by decide +kernel
theorem dL_law_634 : decode cL_law 634 = .ok (.aload_n 0, 1) := by decide +kernel
theorem dL_law_635 : decode cL_law 635 = .ok (.iload 4, 2) := by decide +kernel
theorem dL_law_637 : decode cL_law 637 = .ok (.iconst 3, 1) := by decide +kernel
theorem dL_law_638 : decode cL_law 638 = .ok (.iadd, 1) := by decide +kernel
theorem dL_law_639 : decode cL_law 639 = .ok (.iaload, 1) := by decide +kernel
theorem dL_law_640 : decode cL_law 640 = .ok (.aload_n 0, 1) := by decide +kernel
theorem dL_law_641 : decode cL_law 641 = .ok (.iload 4, 2) := by decide +kernel
theorem dL_law_643 : decode cL_law 643 = .ok (.iconst 4, 1) := by decide +kernel
theorem dL_law_644 : decode cL_law 644 = .ok (.iadd, 1) := by decide +kernel
theorem dL_law_645 : decode cL_law 645 = .ok (.iaload, 1) := by decide +kernel
theorem dL_law_646 : decode cL_law 646 = .ok (.invokevirtual 90, 3) := by decide +kernel
theorem dL_law_649 : decode cL_law 649 = .ok (.if_icmp .eq 459, 3) := by decide +kernel
theorem dL_law_652 : decode cL_law 652 = .ok (.iconst 0, 1) := by decide +kernel
theorem dL_law_653 : decode cL_law 653 = .ok (.ireturn, 1) := by decide +kernel
theorem dL_law_654 : decode cL_law 654 = .ok (.aload_n 1, 1) := by decide +kernel
theorem dL_law_655 : decode cL_law 655 = .ok (.aload_n 0, 1) := by decide +kernel
theorem dL_law_656 : decode cL_law 656 = .ok (.iload 4, 2) := by decide +kernel
theorem dL_law_658 : decode cL_law 658 = .ok (.iconst 1, 1) := by decide +kernel
theorem dL_law_659 : decode cL_law 659 = .ok (.iadd, 1) := by decide +kernel
theorem dL_law_660 : decode cL_law 660 = .ok (.iaload, 1) := by decide +kernel
theorem dL_law_661 : decode cL_law 661 = .ok (.invokevirtual 91, 3) := by decide +kernel
theorem dL_law_664 : decode cL_law 664 = .ok (.aload_n 2, 1) := by decide +kernel
theorem dL_law_665 : decode cL_law 665 = .ok (.aload_n 0, 1) := by decide +kernel
theorem dL_law_666 : decode cL_law 666 = .ok (.iload 4, 2) := by decide +kernel
theorem dL_law_668 : decode cL_law 668 = .ok (.iconst 1, 1) := by decide +kernel
theorem dL_law_669 : decode cL_law 669 = .ok (.iadd, 1) := by decide +kernel
theorem dL_law_670 : decode cL_law 670 = .ok (.iaload, 1) := by decide +kernel
theorem dL_law_671 : decode cL_law 671 = .ok (.invokevirtual 94, 3) := by decide +kernel
theorem dL_law_674 : decode cL_law 674 = .ok (.if_icmp .eq 434, 3) := by decide +kernel
theorem dL_law_677 : decode cL_law 677 = .ok (.iconst 0, 1) := by decide +kernel
theorem dL_law_678 : decode cL_law 678 = .ok (.ireturn, 1) := by decide +kernel
theorem dL_law_679 : decode cL_law 679 = .ok (.aload_n 1, 1) := by decide +kernel
theorem dL_law_680 : decode cL_law 680 = .ok (.aload_n 0, 1) := by decide +kernel
theorem dL_law_681 : decode cL_law 681 = .ok (.iload 4, 2) := by decide +kernel
theorem dL_law_683 : decode cL_law 683 = .ok (.iconst 1, 1) := by decide +kernel
theorem dL_law_684 : decode cL_law 684 = .ok (.iadd, 1) := by decide +kernel
theorem dL_law_685 : decode cL_law 685 = .ok (.iaload, 1) := by decide +kernel
theorem dL_law_686 : decode cL_law 686 = .ok (.invokevirtual 95, 3) := by decide +kernel
theorem dL_law_689 : decode cL_law 689 = .ok (.aload_n 2, 1) := by decide +kernel
theorem dL_law_690 : decode cL_law 690 = .ok (.aload_n 0, 1) := by decide +kernel
theorem dL_law_691 : decode cL_law 691 = .ok (.iload 4, 2) := by decide +kernel
theorem dL_law_693 : decode cL_law 693 = .ok (.iconst 1, 1) := by decide +kernel
theorem dL_law_694 : decode cL_law 694 = .ok (.iadd, 1) := by decide +kernel
theorem dL_law_695 : decode cL_law 695 = .ok (.iaload, 1) := by decide +kernel
theorem dL_law_696 : decode cL_law 696 = .ok (.invokevirtual 98, 3) := by decide +kernel
theorem dL_law_699 : decode cL_law 699 = .ok (.if_icmp .eq 409, 3) := by decide +kernel
theorem dL_law_702 : decode cL_law 702 = .ok (.iconst 0, 1) := by decide +kernel
theorem dL_law_703 : decode cL_law 703 = .ok (.ireturn, 1) := by decide +kernel
theorem dL_law_704 : decode cL_law 704 = .ok (.aload_n 1, 1) := by decide +kernel
theorem dL_law_705 : decode cL_law 705 = .ok (.aload_n 0, 1) := by decide +kernel
theorem dL_law_706 : decode cL_law 706 = .ok (.iload 4, 2) := by decide +kernel
theorem dL_law_708 : decode cL_law 708 = .ok (.iconst 1, 1) := by decide +kernel
theorem dL_law_709 : decode cL_law 709 = .ok (.iadd, 1) := by decide +kernel
theorem dL_law_710 : decode cL_law 710 = .ok (.iaload, 1) := by decide +kernel
theorem dL_law_711 : decode cL_law 711 = .ok (.invokevirtual 99, 3) := by decide +kernel
theorem dL_law_714 : decode cL_law 714 = .ok (.aload_n 2, 1) := by decide +kernel
theorem dL_law_715 : decode cL_law 715 = .ok (.aload_n 0, 1) := by decide +kernel
theorem dL_law_716 : decode cL_law 716 = .ok (.iload 4, 2) := by decide +kernel
theorem dL_law_718 : decode cL_law 718 = .ok (.iconst 1, 1) := by decide +kernel
theorem dL_law_719 : decode cL_law 719 = .ok (.iadd, 1) := by decide +kernel
theorem dL_law_720 : decode cL_law 720 = .ok (.iaload, 1) := by decide +kernel
theorem dL_law_721 : decode cL_law 721 = .ok (.invokevirtual 102, 3) := by decide +kernel
theorem dL_law_724 : decode cL_law 724 = .ok (.if_icmp .eq 384, 3) := by decide +kernel
theorem dL_law_727 : decode cL_law 727 = .ok (.iconst 0, 1) := by decide +kernel
theorem dL_law_728 : decode cL_law 728 = .ok (.ireturn, 1) := by decide +kernel
theorem dL_law_729 : decode cL_law 729 = .ok (.aload_n 1, 1) := by decide +kernel
theorem dL_law_730 : decode cL_law 730 = .ok (.invokevirtual 103, 3) := by decide +kernel
theorem dL_law_733 : decode cL_law 733 = .ok (.aload_n 2, 1) := by decide +kernel
theorem dL_law_734 : decode cL_law 734 = .ok (.invokevirtual 107, 3) := by decide +kernel
theorem dL_law_737 : decode cL_law 737 = .ok (.lcmp, 1) := by decide +kernel
theorem dL_law_738 : decode cL_law 738 = .ok (.ifCond .eq 370, 3) := by decide +kernel
theorem dL_law_741 : decode cL_law 741 = .ok (.iconst 0, 1) := by decide +kernel
theorem dL_law_742 : decode cL_law 742 = .ok (.ireturn, 1) := by decide +kernel
theorem dL_law_743 : decode cL_law 743 = .ok (.aload_n 1, 1) := by decide +kernel
theorem dL_law_744 : decode cL_law 744 = .ok (.aload_n 0, 1) := by decide +kernel
theorem dL_law_745 : decode cL_law 745 = .ok (.iload 4, 2) := by decide +kernel
theorem dL_law_747 : decode cL_law 747 = .ok (.iconst 1, 1) := by decide +kernel
theorem dL_law_748 : decode cL_law 748 = .ok (.iadd, 1) := by decide +kernel
theorem dL_law_749 : decode cL_law 749 = .ok (.iaload, 1) := by decide +kernel
theorem dL_law_750 : decode cL_law 750 = .ok (.invokevirtual 108, 3) := by decide +kernel
theorem dL_law_753 : decode cL_law 753 = .ok (.aload_n 2, 1) := by decide +kernel
theorem dL_law_754 : decode cL_law 754 = .ok (.aload_n 0, 1) := by decide +kernel
theorem dL_law_755 : decode cL_law 755 = .ok (.iload 4, 2) := by decide +kernel
theorem dL_law_757 : decode cL_law 757 = .ok (.iconst 1, 1) := by decide +kernel
theorem dL_law_758 : decode cL_law 758 = .ok (.iadd, 1) := by decide +kernel
theorem dL_law_759 : decode cL_law 759 = .ok (.iaload, 1) := by decide +kernel
theorem dL_law_760 : decode cL_law 760 = .ok (.invokevirtual 112, 3) := by decide +kernel
theorem dL_law_763 : decode cL_law 763 = .ok (.lcmp, 1) := by decide +kernel
theorem dL_law_764 : decode cL_law 764 = .ok (.ifCond .eq 344, 3) := by decide +kernel
theorem dL_law_767 : decode cL_law 767 = .ok (.iconst 0, 1) := by decide +kernel
theorem dL_law_768 : decode cL_law 768 = .ok (.ireturn, 1) := by decide +kernel
theorem dL_law_769 : decode cL_law 769 = .ok (.aload_n 1, 1) := by decide +kernel
theorem dL_law_770 : decode cL_law 770 = .ok (.aload_n 0, 1) := by decide +kernel
theorem dL_law_771 : decode cL_law 771 = .ok (.iload 4, 2) := by decide +kernel
theorem dL_law_773 : decode cL_law 773 = .ok (.iconst 1, 1) := by decide +kernel
theorem dL_law_774 : decode cL_law 774 = .ok (.iadd, 1) := by decide +kernel
theorem dL_law_775 : decode cL_law 775 = .ok (.iaload, 1) := by decide +kernel
theorem dL_law_776 : decode cL_law 776 = .ok (.invokevirtual 113, 3) := by decide +kernel
theorem dL_law_779 : decode cL_law 779 = .ok (.aload_n 2, 1) := by decide +kernel
theorem dL_law_780 : decode cL_law 780 = .ok (.aload_n 0, 1) := by decide +kernel
theorem dL_law_781 : decode cL_law 781 = .ok (.iload 4, 2) := by decide +kernel
theorem dL_law_783 : decode cL_law 783 = .ok (.iconst 1, 1) := by decide +kernel
theorem dL_law_784 : decode cL_law 784 = .ok (.iadd, 1) := by decide +kernel
theorem dL_law_785 : decode cL_law 785 = .ok (.iaload, 1) := by decide +kernel
theorem dL_law_786 : decode cL_law 786 = .ok (.invokevirtual 116, 3) := by decide +kernel
theorem dL_law_789 : decode cL_law 789 = .ok (.lcmp, 1) := by decide +kernel
theorem dL_law_790 : decode cL_law 790 = .ok (.ifCond .eq 318, 3) := by decide +kernel
theorem dL_law_793 : decode cL_law 793 = .ok (.iconst 0, 1) := by decide +kernel
theorem dL_law_794 : decode cL_law 794 = .ok (.ireturn, 1) := by decide +kernel
theorem dL_law_795 : decode cL_law 795 = .ok (.aload_n 1, 1) := by decide +kernel
theorem dL_law_796 : decode cL_law 796 = .ok (.invokevirtual 117, 3) := by decide +kernel
theorem dL_law_799 : decode cL_law 799 = .ok (.aload_n 2, 1) := by decide +kernel
theorem dL_law_800 : decode cL_law 800 = .ok (.invokevirtual 120, 3) := by decide +kernel
theorem dL_law_803 : decode cL_law 803 = .ok (.if_icmp .eq 305, 3) := by decide +kernel
theorem dL_law_806 : decode cL_law 806 = .ok (.iconst 0, 1) := by decide +kernel
theorem dL_law_807 : decode cL_law 807 = .ok (.ireturn, 1) := by decide +kernel
theorem dL_law_808 : decode cL_law 808 = .ok (.aload_n 1, 1) := by decide +kernel
theorem dL_law_809 : decode cL_law 809 = .ok (.invokevirtual 121, 3) := by decide +kernel
theorem dL_law_812 : decode cL_law 812 = .ok (.aload_n 2, 1) := by decide +kernel
theorem dL_law_813 : decode cL_law 813 = .ok (.invokevirtual 124, 3) := by decide +kernel
theorem dL_law_816 : decode cL_law 816 = .ok (.if_icmp .eq 292, 3) := by decide +kernel
theorem dL_law_819 : decode cL_law 819 = .ok (.iconst 0, 1) := by decide +kernel
theorem dL_law_820 : decode cL_law 820 = .ok (.ireturn, 1) := by decide +kernel
theorem dL_law_821 : decode cL_law 821 = .ok (.aload_n 1, 1) := by decide +kernel
theorem dL_law_822 : decode cL_law 822 = .ok (.invokevirtual 125, 3) := by decide +kernel
theorem dL_law_825 : decode cL_law 825 = .ok (.aload_n 2, 1) := by decide +kernel
theorem dL_law_826 : decode cL_law 826 = .ok (.invokevirtual 128, 3) := by decide +kernel
theorem dL_law_829 : decode cL_law 829 = .ok (.if_icmp .eq 279, 3) := by decide +kernel
theorem dL_law_832 : decode cL_law 832 = .ok (.iconst 0, 1) := by decide +kernel
theorem dL_law_833 : decode cL_law 833 = .ok (.ireturn, 1) := by decide +kernel
theorem dL_law_834 : decode cL_law 834 = .ok (.aload_n 1, 1) := by decide +kernel
theorem dL_law_835 : decode cL_law 835 = .ok (.invokevirtual 129, 3) := by decide +kernel
theorem dL_law_838 : decode cL_law 838 = .ok (.aload_n 2, 1) := by decide +kernel
theorem dL_law_839 : decode cL_law 839 = .ok (.invokevirtual 132, 3) := by decide +kernel
theorem dL_law_842 : decode cL_law 842 = .ok (.if_icmp .eq 266, 3) := by decide +kernel
theorem dL_law_845 : decode cL_law 845 = .ok (.iconst 0, 1) := by decide +kernel
theorem dL_law_846 : decode cL_law 846 = .ok (.ireturn, 1) := by decide +kernel
theorem dL_law_847 : decode cL_law 847 = .ok (.aload_n 1, 1) := by decide +kernel
theorem dL_law_848 : decode cL_law 848 = .ok (.aload_n 0, 1) := by decide +kernel
theorem dL_law_849 : decode cL_law 849 = .ok (.iload 4, 2) := by decide +kernel
theorem dL_law_851 : decode cL_law 851 = .ok (.iconst 1, 1) := by decide +kernel
theorem dL_law_852 : decode cL_law 852 = .ok (.iadd, 1) := by decide +kernel
theorem dL_law_853 : decode cL_law 853 = .ok (.iaload, 1) := by decide +kernel
theorem dL_law_854 : decode cL_law 854 = .ok (.invokevirtual 133, 3) := by decide +kernel
theorem dL_law_857 : decode cL_law 857 = .ok (.aload_n 2, 1) := by decide +kernel
theorem dL_law_858 : decode cL_law 858 = .ok (.aload_n 0, 1) := by decide +kernel
theorem dL_law_859 : decode cL_law 859 = .ok (.iload 4, 2) := by decide +kernel
theorem dL_law_861 : decode cL_law 861 = .ok (.iconst 1, 1) := by decide +kernel
theorem dL_law_862 : decode cL_law 862 = .ok (.iadd, 1) := by decide +kernel
theorem dL_law_863 : decode cL_law 863 = .ok (.iaload, 1) := by decide +kernel
theorem dL_law_864 : decode cL_law 864 = .ok (.invokevirtual 136, 3) := by decide +kernel
theorem dL_law_867 : decode cL_law 867 = .ok (.if_icmp .eq 241, 3) := by decide +kernel
theorem dL_law_870 : decode cL_law 870 = .ok (.iconst 0, 1) := by decide +kernel
theorem dL_law_871 : decode cL_law 871 = .ok (.ireturn, 1) := by decide +kernel
theorem dL_law_872 : decode cL_law 872 = .ok (.aload_n 1, 1) := by decide +kernel
theorem dL_law_873 : decode cL_law 873 = .ok (.aload_n 0, 1) := by decide +kernel
theorem dL_law_874 : decode cL_law 874 = .ok (.iload 4, 2) := by decide +kernel
theorem dL_law_876 : decode cL_law 876 = .ok (.iconst 1, 1) := by decide +kernel
theorem dL_law_877 : decode cL_law 877 = .ok (.iadd, 1) := by decide +kernel
theorem dL_law_878 : decode cL_law 878 = .ok (.iaload, 1) := by decide +kernel
theorem dL_law_879 : decode cL_law 879 = .ok (.aload_n 0, 1) := by decide +kernel
theorem dL_law_880 : decode cL_law 880 = .ok (.iload 4, 2) := by decide +kernel
theorem dL_law_882 : decode cL_law 882 = .ok (.iconst 2, 1) := by decide +kernel
theorem dL_law_883 : decode cL_law 883 = .ok (.iadd, 1) := by decide +kernel
theorem dL_law_884 : decode cL_law 884 = .ok (.iaload, 1) := by decide +kernel
theorem dL_law_885 : decode cL_law 885 = .ok (.invokevirtual 137, 3) := by decide +kernel
theorem dL_law_888 : decode cL_law 888 = .ok (.aload_n 2, 1) := by decide +kernel
theorem dL_law_889 : decode cL_law 889 = .ok (.aload_n 0, 1) := by decide +kernel
theorem dL_law_890 : decode cL_law 890 = .ok (.iload 4, 2) := by decide +kernel
theorem dL_law_892 : decode cL_law 892 = .ok (.iconst 1, 1) := by decide +kernel
theorem dL_law_893 : decode cL_law 893 = .ok (.iadd, 1) := by decide +kernel
theorem dL_law_894 : decode cL_law 894 = .ok (.iaload, 1) := by decide +kernel
theorem dL_law_895 : decode cL_law 895 = .ok (.aload_n 0, 1) := by decide +kernel
theorem dL_law_896 : decode cL_law 896 = .ok (.iload 4, 2) := by decide +kernel
theorem dL_law_898 : decode cL_law 898 = .ok (.iconst 2, 1) := by decide +kernel
theorem dL_law_899 : decode cL_law 899 = .ok (.iadd, 1) := by decide +kernel
theorem dL_law_900 : decode cL_law 900 = .ok (.iaload, 1) := by decide +kernel
theorem dL_law_901 : decode cL_law 901 = .ok (.invokevirtual 140, 3) := by decide +kernel
theorem dL_law_904 : decode cL_law 904 = .ok (.if_icmp .eq 204, 3) := by decide +kernel
theorem dL_law_907 : decode cL_law 907 = .ok (.iconst 0, 1) := by decide +kernel
theorem dL_law_908 : decode cL_law 908 = .ok (.ireturn, 1) := by decide +kernel
theorem dL_law_909 : decode cL_law 909 = .ok (.aload_n 1, 1) := by decide +kernel
theorem dL_law_910 : decode cL_law 910 = .ok (.aload_n 0, 1) := by decide +kernel
theorem dL_law_911 : decode cL_law 911 = .ok (.iload 4, 2) := by decide +kernel
theorem dL_law_913 : decode cL_law 913 = .ok (.iconst 1, 1) := by decide +kernel
theorem dL_law_914 : decode cL_law 914 = .ok (.iadd, 1) := by decide +kernel
theorem dL_law_915 : decode cL_law 915 = .ok (.iaload, 1) := by decide +kernel
theorem dL_law_916 : decode cL_law 916 = .ok (.aload_n 0, 1) := by decide +kernel
theorem dL_law_917 : decode cL_law 917 = .ok (.iload 4, 2) := by decide +kernel
theorem dL_law_919 : decode cL_law 919 = .ok (.iconst 2, 1) := by decide +kernel
theorem dL_law_920 : decode cL_law 920 = .ok (.iadd, 1) := by decide +kernel
theorem dL_law_921 : decode cL_law 921 = .ok (.iaload, 1) := by decide +kernel
theorem dL_law_922 : decode cL_law 922 = .ok (.invokevirtual 141, 3) := by decide +kernel
theorem dL_law_925 : decode cL_law 925 = .ok (.aload_n 2, 1) := by decide +kernel
theorem dL_law_926 : decode cL_law 926 = .ok (.aload_n 0, 1) := by decide +kernel
theorem dL_law_927 : decode cL_law 927 = .ok (.iload 4, 2) := by decide +kernel
theorem dL_law_929 : decode cL_law 929 = .ok (.iconst 1, 1) := by decide +kernel
theorem dL_law_930 : decode cL_law 930 = .ok (.iadd, 1) := by decide +kernel
theorem dL_law_931 : decode cL_law 931 = .ok (.iaload, 1) := by decide +kernel
theorem dL_law_932 : decode cL_law 932 = .ok (.aload_n 0, 1) := by decide +kernel
theorem dL_law_933 : decode cL_law 933 = .ok (.iload 4, 2) := by decide +kernel
theorem dL_law_935 : decode cL_law 935 = .ok (.iconst 2, 1) := by decide +kernel
theorem dL_law_936 : decode cL_law 936 = .ok (.iadd, 1) := by decide +kernel
theorem dL_law_937 : decode cL_law 937 = .ok (.iaload, 1) := by decide +kernel
theorem dL_law_938 : decode cL_law 938 = .ok (.invokevirtual 144, 3) := by decide +kernel
theorem dL_law_941 : decode cL_law 941 = .ok (.if_icmp .eq 167, 3) := by decide +kernel
theorem dL_law_944 : decode cL_law 944 = .ok (.iconst 0, 1) := by decide +kernel
theorem dL_law_945 : decode cL_law 945 = .ok (.ireturn, 1) := by decide +kernel
theorem dL_law_946 : decode cL_law 946 = .ok (.aload_n 1, 1) := by decide +kernel
theorem dL_law_947 : decode cL_law 947 = .ok (.invokevirtual 145, 3) := by decide +kernel
theorem dL_law_950 : decode cL_law 950 = .ok (.aload_n 2, 1) := by decide +kernel
theorem dL_law_951 : decode cL_law 951 = .ok (.invokevirtual 148, 3) := by decide +kernel
theorem dL_law_954 : decode cL_law 954 = .ok (.if_icmp .eq 154, 3) := by decide +kernel
theorem dL_law_957 : decode cL_law 957 = .ok (.iconst 0, 1) := by decide +kernel
theorem dL_law_958 : decode cL_law 958 = .ok (.ireturn, 1) := by decide +kernel
theorem dL_law_959 : decode cL_law 959 = .ok (.aload_n 1, 1) := by decide +kernel
theorem dL_law_960 : decode cL_law 960 = .ok (.aload_n 0, 1) := by decide +kernel
theorem dL_law_961 : decode cL_law 961 = .ok (.iload 4, 2) := by decide +kernel
theorem dL_law_963 : decode cL_law 963 = .ok (.iconst 1, 1) := by decide +kernel
theorem dL_law_964 : decode cL_law 964 = .ok (.iadd, 1) := by decide +kernel
theorem dL_law_965 : decode cL_law 965 = .ok (.iaload, 1) := by decide +kernel
theorem dL_law_966 : decode cL_law 966 = .ok (.aload_n 0, 1) := by decide +kernel
theorem dL_law_967 : decode cL_law 967 = .ok (.iload 4, 2) := by decide +kernel
theorem dL_law_969 : decode cL_law 969 = .ok (.iconst 2, 1) := by decide +kernel
theorem dL_law_970 : decode cL_law 970 = .ok (.iadd, 1) := by decide +kernel
theorem dL_law_971 : decode cL_law 971 = .ok (.iaload, 1) := by decide +kernel
theorem dL_law_972 : decode cL_law 972 = .ok (.invokevirtual 149, 3) := by decide +kernel
theorem dL_law_975 : decode cL_law 975 = .ok (.aload_n 2, 1) := by decide +kernel
theorem dL_law_976 : decode cL_law 976 = .ok (.aload_n 0, 1) := by decide +kernel
theorem dL_law_977 : decode cL_law 977 = .ok (.iload 4, 2) := by decide +kernel
theorem dL_law_979 : decode cL_law 979 = .ok (.iconst 1, 1) := by decide +kernel
theorem dL_law_980 : decode cL_law 980 = .ok (.iadd, 1) := by decide +kernel
theorem dL_law_981 : decode cL_law 981 = .ok (.iaload, 1) := by decide +kernel
theorem dL_law_982 : decode cL_law 982 = .ok (.aload_n 0, 1) := by decide +kernel
theorem dL_law_983 : decode cL_law 983 = .ok (.iload 4, 2) := by decide +kernel
theorem dL_law_985 : decode cL_law 985 = .ok (.iconst 2, 1) := by decide +kernel
theorem dL_law_986 : decode cL_law 986 = .ok (.iadd, 1) := by decide +kernel
theorem dL_law_987 : decode cL_law 987 = .ok (.iaload, 1) := by decide +kernel
theorem dL_law_988 : decode cL_law 988 = .ok (.invokevirtual 152, 3) := by decide +kernel
theorem dL_law_991 : decode cL_law 991 = .ok (.if_icmp .eq 117, 3) := by decide +kernel
theorem dL_law_994 : decode cL_law 994 = .ok (.iconst 0, 1) := by decide +kernel
theorem dL_law_995 : decode cL_law 995 = .ok (.ireturn, 1) := by decide +kernel
theorem dL_law_996 : decode cL_law 996 = .ok (.aload_n 1, 1) := by decide +kernel
theorem dL_law_997 : decode cL_law 997 = .ok (.aload_n 0, 1) := by decide +kernel
theorem dL_law_998 : decode cL_law 998 = .ok (.iload 4, 2) := by decide +kernel
theorem dL_law_1000 : decode cL_law 1000 = .ok (.iconst 1, 1) := by decide +kernel
theorem dL_law_1001 : decode cL_law 1001 = .ok (.iadd, 1) := by decide +kernel
theorem dL_law_1002 : decode cL_law 1002 = .ok (.iaload, 1) := by decide +kernel
theorem dL_law_1003 : decode cL_law 1003 = .ok (.aload_n 0, 1) := by decide +kernel
theorem dL_law_1004 : decode cL_law 1004 = .ok (.iload 4, 2) := by decide +kernel
theorem dL_law_1006 : decode cL_law 1006 = .ok (.iconst 2, 1) := by decide +kernel
theorem dL_law_1007 : decode cL_law 1007 = .ok (.iadd, 1) := by decide +kernel
theorem dL_law_1008 : decode cL_law 1008 = .ok (.iaload, 1) := by decide +kernel
theorem dL_law_1009 : decode cL_law 1009 = .ok (.invokevirtual 153, 3) := by decide +kernel
theorem dL_law_1012 : decode cL_law 1012 = .ok (.aload_n 2, 1) := by decide +kernel
theorem dL_law_1013 : decode cL_law 1013 = .ok (.aload_n 0, 1) := by decide +kernel
theorem dL_law_1014 : decode cL_law 1014 = .ok (.iload 4, 2) := by decide +kernel
theorem dL_law_1016 : decode cL_law 1016 = .ok (.iconst 1, 1) := by decide +kernel
theorem dL_law_1017 : decode cL_law 1017 = .ok (.iadd, 1) := by decide +kernel
theorem dL_law_1018 : decode cL_law 1018 = .ok (.iaload, 1) := by decide +kernel
theorem dL_law_1019 : decode cL_law 1019 = .ok (.aload_n 0, 1) := by decide +kernel
theorem dL_law_1020 : decode cL_law 1020 = .ok (.iload 4, 2) := by decide +kernel
theorem dL_law_1022 : decode cL_law 1022 = .ok (.iconst 2, 1) := by decide +kernel
theorem dL_law_1023 : decode cL_law 1023 = .ok (.iadd, 1) := by decide +kernel
theorem dL_law_1024 : decode cL_law 1024 = .ok (.iaload, 1) := by decide +kernel
theorem dL_law_1025 : decode cL_law 1025 = .ok (.invokevirtual 156, 3) := by decide +kernel
theorem dL_law_1028 : decode cL_law 1028 = .ok (.if_icmp .eq 80, 3) := by decide +kernel
theorem dL_law_1031 : decode cL_law 1031 = .ok (.iconst 0, 1) := by decide +kernel
theorem dL_law_1032 : decode cL_law 1032 = .ok (.ireturn, 1) := by decide +kernel
theorem dL_law_1033 : decode cL_law 1033 = .ok (.aload_n 1, 1) := by decide +kernel
theorem dL_law_1034 : decode cL_law 1034 = .ok (.aload_n 0, 1) := by decide +kernel
theorem dL_law_1035 : decode cL_law 1035 = .ok (.iload 4, 2) := by decide +kernel
theorem dL_law_1037 : decode cL_law 1037 = .ok (.iconst 1, 1) := by decide +kernel
theorem dL_law_1038 : decode cL_law 1038 = .ok (.iadd, 1) := by decide +kernel
theorem dL_law_1039 : decode cL_law 1039 = .ok (.iaload, 1) := by decide +kernel
theorem dL_law_1040 : decode cL_law 1040 = .ok (.aload_n 0, 1) := by decide +kernel
theorem dL_law_1041 : decode cL_law 1041 = .ok (.iload 4, 2) := by decide +kernel
theorem dL_law_1043 : decode cL_law 1043 = .ok (.iconst 2, 1) := by decide +kernel
theorem dL_law_1044 : decode cL_law 1044 = .ok (.iadd, 1) := by decide +kernel
theorem dL_law_1045 : decode cL_law 1045 = .ok (.iaload, 1) := by decide +kernel
theorem dL_law_1046 : decode cL_law 1046 = .ok (.invokevirtual 157, 3) := by decide +kernel
theorem dL_law_1049 : decode cL_law 1049 = .ok (.aload_n 2, 1) := by decide +kernel
theorem dL_law_1050 : decode cL_law 1050 = .ok (.aload_n 0, 1) := by decide +kernel
theorem dL_law_1051 : decode cL_law 1051 = .ok (.iload 4, 2) := by decide +kernel
theorem dL_law_1053 : decode cL_law 1053 = .ok (.iconst 1, 1) := by decide +kernel
theorem dL_law_1054 : decode cL_law 1054 = .ok (.iadd, 1) := by decide +kernel
theorem dL_law_1055 : decode cL_law 1055 = .ok (.iaload, 1) := by decide +kernel
theorem dL_law_1056 : decode cL_law 1056 = .ok (.aload_n 0, 1) := by decide +kernel
theorem dL_law_1057 : decode cL_law 1057 = .ok (.iload 4, 2) := by decide +kernel
theorem dL_law_1059 : decode cL_law 1059 = .ok (.iconst 2, 1) := by decide +kernel
theorem dL_law_1060 : decode cL_law 1060 = .ok (.iadd, 1) := by decide +kernel
theorem dL_law_1061 : decode cL_law 1061 = .ok (.iaload, 1) := by decide +kernel
theorem dL_law_1062 : decode cL_law 1062 = .ok (.invokevirtual 160, 3) := by decide +kernel
theorem dL_law_1065 : decode cL_law 1065 = .ok (.if_icmp .eq 43, 3) := by decide +kernel
theorem dL_law_1068 : decode cL_law 1068 = .ok (.iconst 0, 1) := by decide +kernel
theorem dL_law_1069 : decode cL_law 1069 = .ok (.ireturn, 1) := by decide +kernel
theorem dL_law_1070 : decode cL_law 1070 = .ok (.aload_n 1, 1) := by decide +kernel
theorem dL_law_1071 : decode cL_law 1071 = .ok (.aload_n 0, 1) := by decide +kernel
theorem dL_law_1072 : decode cL_law 1072 = .ok (.iload 4, 2) := by decide +kernel
theorem dL_law_1074 : decode cL_law 1074 = .ok (.iconst 1, 1) := by decide +kernel
theorem dL_law_1075 : decode cL_law 1075 = .ok (.iadd, 1) := by decide +kernel
theorem dL_law_1076 : decode cL_law 1076 = .ok (.iaload, 1) := by decide +kernel
theorem dL_law_1077 : decode cL_law 1077 = .ok (.invokevirtual 161, 3) := by decide +kernel
theorem dL_law_1080 : decode cL_law 1080 = .ok (.aload_n 2, 1) := by decide +kernel
theorem dL_law_1081 : decode cL_law 1081 = .ok (.aload_n 0, 1) := by decide +kernel
theorem dL_law_1082 : decode cL_law 1082 = .ok (.iload 4, 2) := by decide +kernel
theorem dL_law_1084 : decode cL_law 1084 = .ok (.iconst 1, 1) := by decide +kernel
theorem dL_law_1085 : decode cL_law 1085 = .ok (.iadd, 1) := by decide +kernel
theorem dL_law_1086 : decode cL_law 1086 = .ok (.iaload, 1) := by decide +kernel
theorem dL_law_1087 : decode cL_law 1087 = .ok (.invokevirtual 164, 3) := by decide +kernel
theorem dL_law_1090 : decode cL_law 1090 = .ok (.if_icmp .eq 18, 3) := by decide +kernel
theorem dL_law_1093 : decode cL_law 1093 = .ok (.iconst 0, 1) := by decide +kernel
theorem dL_law_1094 : decode cL_law 1094 = .ok (.ireturn, 1) := by decide +kernel
theorem dL_law_1095 : decode cL_law 1095 = .ok (.aload_n 1, 1) := by decide +kernel
theorem dL_law_1096 : decode cL_law 1096 = .ok (.invokevirtual 165, 3) := by decide +kernel
theorem dL_law_1099 : decode cL_law 1099 = .ok (.aload_n 2, 1) := by decide +kernel
theorem dL_law_1100 : decode cL_law 1100 = .ok (.invokevirtual 168, 3) := by decide +kernel
theorem dL_law_1103 : decode cL_law 1103 = .ok (.if_icmp .eq 5, 3) := by decide +kernel
theorem dL_law_1106 : decode cL_law 1106 = .ok (.iconst 0, 1) := by decide +kernel
theorem dL_law_1107 : decode cL_law 1107 = .ok (.ireturn, 1) := by decide +kernel
theorem dL_law_1108 : decode cL_law 1108 = .ok (.iinc 4 5, 3) := by decide +kernel
theorem dL_law_1111 : decode cL_law 1111 = .ok (.goto (-1088), 3) := by decide +kernel
theorem dL_law_1114 : decode cL_law 1114 = .ok (.iconst 1, 1) := by decide +kernel
theorem dL_law_1115 : decode cL_law 1115 = .ok (.ireturn, 1) := by decide +kernel
end
section
theorem dX0_init_0 : decode cX0_init 0 = .ok (.aload_n 0, 1) := by decide +kernel
theorem dX0_init_1 : decode cX0_init 1 = .ok (.invokespecial 1, 3) := by decide +kernel
theorem dX0_init_4 : decode cX0_init 4 = .ok (.aload_n 0, 1) := by decide +kernel
theorem dX0_init_5 : decode cX0_init 5 = .ok (.bipush 32, 2) := by decide +kernel
theorem dX0_init_7 : decode cX0_init 7 = .ok (.newarray .int, 2) := by decide +kernel
theorem dX0_init_9 : decode cX0_init 9 = .ok (.putfield 9, 3) := by decide +kernel
theorem dX0_init_12 : decode cX0_init 12 = .ok (.aload_n 0, 1) := by decide +kernel
theorem dX0_init_13 : decode cX0_init 13 = .ok (.iconst 0, 1) := by decide +kernel
theorem dX0_init_14 : decode cX0_init 14 = .ok (.putfield 13, 3) := by decide +kernel
theorem dX0_init_17 : decode cX0_init 17 = .ok (.return_, 1) := by decide +kernel
theorem dX0_has_0 : decode cX0_has 0 = .ok (.iload_n 1, 1) := by decide +kernel
theorem dX0_has_1 : decode cX0_has 1 = .ok (.ifCond .lt 15, 3) := by decide +kernel
theorem dX0_has_4 : decode cX0_has 4 = .ok (.iload_n 1, 1) := by decide +kernel
theorem dX0_has_5 : decode cX0_has 5 = .ok (.aload_n 0, 1) := by decide +kernel
theorem dX0_has_6 : decode cX0_has 6 = .ok (.getfield 13, 3) := by decide +kernel
theorem dX0_has_9 : decode cX0_has 9 = .ok (.if_icmp .ge 7, 3) := by decide +kernel
theorem dX0_has_12 : decode cX0_has 12 = .ok (.iconst 1, 1) := by decide +kernel
theorem dX0_has_13 : decode cX0_has 13 = .ok (.goto 4, 3) := by decide +kernel
theorem dX0_has_16 : decode cX0_has 16 = .ok (.iconst 0, 1) := by decide +kernel
theorem dX0_has_17 : decode cX0_has 17 = .ok (.ireturn, 1) := by decide +kernel
theorem dX0_makeDoubled_0 : decode cX0_makeDoubled 0 = .ok (.aload_n 0, 1) := by decide +kernel
theorem dX0_makeDoubled_1 : decode cX0_makeDoubled 1 = .ok (.iconst 1, 1) := by decide +kernel
theorem dX0_makeDoubled_2 : decode cX0_makeDoubled 2 = .ok (.iload_n 1, 1) := by decide +kernel
theorem dX0_makeDoubled_3 : decode cX0_makeDoubled 3 = .ok (.ishl, 1) := by decide +kernel
theorem dX0_makeDoubled_4 : decode cX0_makeDoubled 4 = .ok (.putfield 13, 3) := by decide +kernel
theorem dX0_makeDoubled_7 : decode cX0_makeDoubled 7 = .ok (.iconst 0, 1) := by decide +kernel
theorem dX0_makeDoubled_8 : decode cX0_makeDoubled 8 = .ok (.istore_n 2, 1) := by decide +kernel
theorem dX0_makeDoubled_9 : decode cX0_makeDoubled 9 = .ok (.iload_n 2, 1) := by decide +kernel
theorem dX0_makeDoubled_10 : decode cX0_makeDoubled 10 = .ok (.aload_n 0, 1) := by decide +kernel
theorem dX0_makeDoubled_11 : decode cX0_makeDoubled 11 = .ok (.getfield 13, 3) := by decide +kernel
theorem dX0_makeDoubled_14 : decode cX0_makeDoubled 14 = .ok (.if_icmp .ge 51, 3) := by decide +kernel
theorem dX0_makeDoubled_17 : decode cX0_makeDoubled 17 = .ok (.aload_n 0, 1) := by decide +kernel
theorem dX0_makeDoubled_18 : decode cX0_makeDoubled 18 = .ok (.getfield 9, 3) := by decide +kernel
theorem dX0_makeDoubled_21 : decode cX0_makeDoubled 21 = .ok (.iload_n 2, 1) := by decide +kernel
theorem dX0_makeDoubled_22 : decode cX0_makeDoubled 22 = .ok (.iconst 0, 1) := by decide +kernel
theorem dX0_makeDoubled_23 : decode cX0_makeDoubled 23 = .ok (.iastore, 1) := by decide +kernel
theorem dX0_makeDoubled_24 : decode cX0_makeDoubled 24 = .ok (.iconst 0, 1) := by decide +kernel
theorem dX0_makeDoubled_25 : decode cX0_makeDoubled 25 = .ok (.istore_n 3, 1) := by decide +kernel
theorem dX0_makeDoubled_26 : decode cX0_makeDoubled 26 = .ok (.iload_n 3, 1) := by decide +kernel
theorem dX0_makeDoubled_27 : decode cX0_makeDoubled 27 = .ok (.aload_n 0, 1) := by decide +kernel
theorem dX0_makeDoubled_28 : decode cX0_makeDoubled 28 = .ok (.getfield 13, 3) := by decide +kernel
theorem dX0_makeDoubled_31 : decode cX0_makeDoubled 31 = .ok (.if_icmp .ge 28, 3) := by decide +kernel
theorem dX0_makeDoubled_34 : decode cX0_makeDoubled 34 = .ok (.aload_n 0, 1) := by decide +kernel
theorem dX0_makeDoubled_35 : decode cX0_makeDoubled 35 = .ok (.getfield 9, 3) := by decide +kernel
theorem dX0_makeDoubled_38 : decode cX0_makeDoubled 38 = .ok (.iload_n 2, 1) := by decide +kernel
theorem dX0_makeDoubled_39 : decode cX0_makeDoubled 39 = .ok (.dup2, 1) := by decide +kernel
theorem dX0_makeDoubled_40 : decode cX0_makeDoubled 40 = .ok (.iaload, 1) := by decide +kernel
theorem dX0_makeDoubled_41 : decode cX0_makeDoubled 41 = .ok (.iload_n 2, 1) := by decide +kernel
theorem dX0_makeDoubled_42 : decode cX0_makeDoubled 42 = .ok (.iload_n 3, 1) := by decide +kernel
theorem dX0_makeDoubled_43 : decode cX0_makeDoubled 43 = .ok (.iand, 1) := by decide +kernel
theorem dX0_makeDoubled_44 : decode cX0_makeDoubled 44 = .ok (.invokestatic 17, 3) := by decide +kernel
theorem dX0_makeDoubled_47 : decode cX0_makeDoubled 47 = .ok (.iconst 1, 1) := by decide +kernel
theorem dX0_makeDoubled_48 : decode cX0_makeDoubled 48 = .ok (.iand, 1) := by decide +kernel
theorem dX0_makeDoubled_49 : decode cX0_makeDoubled 49 = .ok (.iload_n 3, 1) := by decide +kernel
theorem dX0_makeDoubled_50 : decode cX0_makeDoubled 50 = .ok (.ishl, 1) := by decide +kernel
theorem dX0_makeDoubled_51 : decode cX0_makeDoubled 51 = .ok (.ior, 1) := by decide +kernel
theorem dX0_makeDoubled_52 : decode cX0_makeDoubled 52 = .ok (.iastore, 1) := by decide +kernel
theorem dX0_makeDoubled_53 : decode cX0_makeDoubled 53 = .ok (.iinc 3 1, 3) := by decide +kernel
theorem dX0_makeDoubled_56 : decode cX0_makeDoubled 56 = .ok (.goto (-30), 3) := by decide +kernel
theorem dX0_makeDoubled_59 : decode cX0_makeDoubled 59 = .ok (.iinc 2 1, 3) := by decide +kernel
theorem dX0_makeDoubled_62 : decode cX0_makeDoubled 62 = .ok (.goto (-53), 3) := by decide +kernel
theorem dX0_makeDoubled_65 : decode cX0_makeDoubled 65 = .ok (.return_, 1) := by decide +kernel
theorem dX0_makeByRests_0 : decode cX0_makeByRests 0 = .ok (.aload_n 0, 1) := by decide +kernel
theorem dX0_makeByRests_1 : decode cX0_makeByRests 1 = .ok (.iload_n 1, 1) := by decide +kernel
theorem dX0_makeByRests_2 : decode cX0_makeByRests 2 = .ok (.iconst 1, 1) := by decide +kernel
theorem dX0_makeByRests_3 : decode cX0_makeByRests 3 = .ok (.iadd, 1) := by decide +kernel
theorem dX0_makeByRests_4 : decode cX0_makeByRests 4 = .ok (.putfield 13, 3) := by decide +kernel
theorem dX0_makeByRests_7 : decode cX0_makeByRests 7 = .ok (.aload_n 0, 1) := by decide +kernel
theorem dX0_makeByRests_8 : decode cX0_makeByRests 8 = .ok (.getfield 9, 3) := by decide +kernel
theorem dX0_makeByRests_11 : decode cX0_makeByRests 11 = .ok (.iconst 0, 1) := by decide +kernel
theorem dX0_makeByRests_12 : decode cX0_makeByRests 12 = .ok (.iconst 0, 1) := by decide +kernel
theorem dX0_makeByRests_13 : decode cX0_makeByRests 13 = .ok (.iastore, 1) := by decide +kernel
theorem dX0_makeByRests_14 : decode cX0_makeByRests 14 = .ok (.iconst 1, 1) := by decide +kernel
theorem dX0_makeByRests_15 : decode cX0_makeByRests 15 = .ok (.istore_n 2, 1) := by decide +kernel
theorem dX0_makeByRests_16 : decode cX0_makeByRests 16 = .ok (.iload_n 2, 1) := by decide +kernel
theorem dX0_makeByRests_17 : decode cX0_makeByRests 17 = .ok (.aload_n 0, 1) := by decide +kernel
theorem dX0_makeByRests_18 : decode cX0_makeByRests 18 = .ok (.getfield 13, 3) := by decide +kernel
theorem dX0_makeByRests_21 : decode cX0_makeByRests 21 = .ok (.if_icmp .ge 60, 3) := by decide +kernel
theorem dX0_makeByRests_24 : decode cX0_makeByRests 24 = .ok (.aload_n 0, 1) := by decide +kernel
theorem dX0_makeByRests_25 : decode cX0_makeByRests 25 = .ok (.getfield 9, 3) := by decide +kernel
theorem dX0_makeByRests_28 : decode cX0_makeByRests 28 = .ok (.iload_n 2, 1) := by decide +kernel
theorem dX0_makeByRests_29 : decode cX0_makeByRests 29 = .ok (.iconst 0, 1) := by decide +kernel
theorem dX0_makeByRests_30 : decode cX0_makeByRests 30 = .ok (.iastore, 1) := by decide +kernel
theorem dX0_makeByRests_31 : decode cX0_makeByRests 31 = .ok (.iconst 1, 1) := by decide +kernel
theorem dX0_makeByRests_32 : decode cX0_makeByRests 32 = .ok (.istore_n 3, 1) := by decide +kernel
theorem dX0_makeByRests_33 : decode cX0_makeByRests 33 = .ok (.iload_n 3, 1) := by decide +kernel
theorem dX0_makeByRests_34 : decode cX0_makeByRests 34 = .ok (.aload_n 0, 1) := by decide +kernel
theorem dX0_makeByRests_35 : decode cX0_makeByRests 35 = .ok (.getfield 13, 3) := by decide +kernel
theorem dX0_makeByRests_38 : decode cX0_makeByRests 38 = .ok (.if_icmp .ge 37, 3) := by decide +kernel
theorem dX0_makeByRests_41 : decode cX0_makeByRests 41 = .ok (.aload_n 0, 1) := by decide +kernel
theorem dX0_makeByRests_42 : decode cX0_makeByRests 42 = .ok (.getfield 9, 3) := by decide +kernel
theorem dX0_makeByRests_45 : decode cX0_makeByRests 45 = .ok (.iload_n 2, 1) := by decide +kernel
theorem dX0_makeByRests_46 : decode cX0_makeByRests 46 = .ok (.dup2, 1) := by decide +kernel
theorem dX0_makeByRests_47 : decode cX0_makeByRests 47 = .ok (.iaload, 1) := by decide +kernel
theorem dX0_makeByRests_48 : decode cX0_makeByRests 48 = .ok (.iload_n 3, 1) := by decide +kernel
theorem dX0_makeByRests_49 : decode cX0_makeByRests 49 = .ok (.iload_n 2, 1) := by decide +kernel
theorem dX0_makeByRests_50 : decode cX0_makeByRests 50 = .ok (.isub, 1) := by decide +kernel
theorem dX0_makeByRests_51 : decode cX0_makeByRests 51 = .ok (.iload_n 1, 1) := by decide +kernel
theorem dX0_makeByRests_52 : decode cX0_makeByRests 52 = .ok (.iadd, 1) := by decide +kernel
theorem dX0_makeByRests_53 : decode cX0_makeByRests 53 = .ok (.iload_n 1, 1) := by decide +kernel
theorem dX0_makeByRests_54 : decode cX0_makeByRests 54 = .ok (.invokestatic 23, 3) := by decide +kernel
theorem dX0_makeByRests_57 : decode cX0_makeByRests 57 = .ok (.ifCond .eq 7, 3) := by decide +kernel
theorem dX0_makeByRests_60 : decode cX0_makeByRests 60 = .ok (.iconst 0, 1) := by decide +kernel
theorem dX0_makeByRests_61 : decode cX0_makeByRests 61 = .ok (.goto 6, 3) := by decide +kernel
theorem dX0_makeByRests_64 : decode cX0_makeByRests 64 = .ok (.iconst 1, 1) := by decide +kernel
theorem dX0_makeByRests_65 : decode cX0_makeByRests 65 = .ok (.iload_n 3, 1) := by decide +kernel
theorem dX0_makeByRests_66 : decode cX0_makeByRests 66 = .ok (.ishl, 1) := by decide +kernel
theorem dX0_makeByRests_67 : decode cX0_makeByRests 67 = .ok (.ior, 1) := by decide +kernel
theorem dX0_makeByRests_68 : decode cX0_makeByRests 68 = .ok (.iastore, 1) := by decide +kernel
theorem dX0_makeByRests_69 : decode cX0_makeByRests 69 = .ok (.iinc 3 1, 3) := by decide +kernel
theorem dX0_makeByRests_72 : decode cX0_makeByRests 72 = .ok (.goto (-39), 3) := by decide +kernel
theorem dX0_makeByRests_75 : decode cX0_makeByRests 75 = .ok (.iinc 2 1, 3) := by decide +kernel
theorem dX0_makeByRests_78 : decode cX0_makeByRests 78 = .ok (.goto (-62), 3) := by decide +kernel
theorem dX0_makeByRests_81 : decode cX0_makeByRests 81 = .ok (.return_, 1) := by decide +kernel
theorem dX0_doubleUp_0 : decode cX0_doubleUp 0 = .ok (.aload_n 0, 1) := by decide +kernel
theorem dX0_doubleUp_1 : decode cX0_doubleUp 1 = .ok (.getfield 13, 3) := by decide +kernel
theorem dX0_doubleUp_4 : decode cX0_doubleUp 4 = .ok (.istore_n 1, 1) := by decide +kernel
theorem dX0_doubleUp_5 : decode cX0_doubleUp 5 = .ok (.iconst 0, 1) := by decide +kernel
theorem dX0_doubleUp_6 : decode cX0_doubleUp 6 = .ok (.istore_n 2, 1) := by decide +kernel
theorem dX0_doubleUp_7 : decode cX0_doubleUp 7 = .ok (.iload_n 2, 1) := by decide +kernel
theorem dX0_doubleUp_8 : decode cX0_doubleUp 8 = .ok (.iload_n 1, 1) := by decide +kernel
theorem dX0_doubleUp_9 : decode cX0_doubleUp 9 = .ok (.if_icmp .ge 45, 3) := by decide +kernel
theorem dX0_doubleUp_12 : decode cX0_doubleUp 12 = .ok (.aload_n 0, 1) := by decide +kernel
theorem dX0_doubleUp_13 : decode cX0_doubleUp 13 = .ok (.getfield 9, 3) := by decide +kernel
theorem dX0_doubleUp_16 : decode cX0_doubleUp 16 = .ok (.iload_n 2, 1) := by decide +kernel
theorem dX0_doubleUp_17 : decode cX0_doubleUp 17 = .ok (.iaload, 1) := by decide +kernel
theorem dX0_doubleUp_18 : decode cX0_doubleUp 18 = .ok (.istore_n 3, 1) := by decide +kernel
theorem dX0_doubleUp_19 : decode cX0_doubleUp 19 = .ok (.aload_n 0, 1) := by decide +kernel
theorem dX0_doubleUp_20 : decode cX0_doubleUp 20 = .ok (.getfield 9, 3) := by decide +kernel
theorem dX0_doubleUp_23 : decode cX0_doubleUp 23 = .ok (.iload_n 2, 1) := by decide +kernel
theorem dX0_doubleUp_24 : decode cX0_doubleUp 24 = .ok (.iload_n 3, 1) := by decide +kernel
theorem dX0_doubleUp_25 : decode cX0_doubleUp 25 = .ok (.iload_n 3, 1) := by decide +kernel
theorem dX0_doubleUp_26 : decode cX0_doubleUp 26 = .ok (.iload_n 1, 1) := by decide +kernel
theorem dX0_doubleUp_27 : decode cX0_doubleUp 27 = .ok (.ishl, 1) := by decide +kernel
theorem dX0_doubleUp_28 : decode cX0_doubleUp 28 = .ok (.ior, 1) := by decide +kernel
theorem dX0_doubleUp_29 : decode cX0_doubleUp 29 = .ok (.iastore, 1) := by decide +kernel
theorem dX0_doubleUp_30 : decode cX0_doubleUp 30 = .ok (.aload_n 0, 1) := by decide +kernel
theorem dX0_doubleUp_31 : decode cX0_doubleUp 31 = .ok (.getfield 9, 3) := by decide +kernel
theorem dX0_doubleUp_34 : decode cX0_doubleUp 34 = .ok (.iload_n 2, 1) := by decide +kernel
theorem dX0_doubleUp_35 : decode cX0_doubleUp 35 = .ok (.iload_n 1, 1) := by decide +kernel
theorem dX0_doubleUp_36 : decode cX0_doubleUp 36 = .ok (.iadd, 1) := by decide +kernel
theorem dX0_doubleUp_37 : decode cX0_doubleUp 37 = .ok (.iload_n 3, 1) := by decide +kernel
theorem dX0_doubleUp_38 : decode cX0_doubleUp 38 = .ok (.iload_n 3, 1) := by decide +kernel
theorem dX0_doubleUp_39 : decode cX0_doubleUp 39 = .ok (.iload_n 1, 1) := by decide +kernel
theorem dX0_doubleUp_40 : decode cX0_doubleUp 40 = .ok (.invokestatic 29, 3) := by decide +kernel
theorem dX0_doubleUp_43 : decode cX0_doubleUp 43 = .ok (.ixor, 1) := by decide +kernel
theorem dX0_doubleUp_44 : decode cX0_doubleUp 44 = .ok (.iload_n 1, 1) := by decide +kernel
theorem dX0_doubleUp_45 : decode cX0_doubleUp 45 = .ok (.ishl, 1) := by decide +kernel
theorem dX0_doubleUp_46 : decode cX0_doubleUp 46 = .ok (.ior, 1) := by decide +kernel
theorem dX0_doubleUp_47 : decode cX0_doubleUp 47 = .ok (.iastore, 1) := by decide +kernel
theorem dX0_doubleUp_48 : decode cX0_doubleUp 48 = .ok (.iinc 2 1, 3) := by decide +kernel
theorem dX0_doubleUp_51 : decode cX0_doubleUp 51 = .ok (.goto (-44), 3) := by decide +kernel
theorem dX0_doubleUp_54 : decode cX0_doubleUp 54 = .ok (.aload_n 0, 1) := by decide +kernel
theorem dX0_doubleUp_55 : decode cX0_doubleUp 55 = .ok (.iconst 2, 1) := by decide +kernel
theorem dX0_doubleUp_56 : decode cX0_doubleUp 56 = .ok (.iload_n 1, 1) := by decide +kernel
theorem dX0_doubleUp_57 : decode cX0_doubleUp 57 = .ok (.imul, 1) := by decide +kernel
theorem dX0_doubleUp_58 : decode cX0_doubleUp 58 = .ok (.putfield 13, 3) := by decide +kernel
theorem dX0_doubleUp_61 : decode cX0_doubleUp 61 = .ok (.return_, 1) := by decide +kernel
theorem dX0_allColumns_0 : decode cX0_allColumns 0 = .ok (.iconst (-1), 1) := by decide +kernel
theorem dX0_allColumns_1 : decode cX0_allColumns 1 = .ok (.bipush 32, 2) := by decide +kernel
theorem dX0_allColumns_3 : decode cX0_allColumns 3 = .ok (.iload_n 0, 1) := by decide +kernel
theorem dX0_allColumns_4 : decode cX0_allColumns 4 = .ok (.isub, 1) := by decide +kernel
theorem dX0_allColumns_5 : decode cX0_allColumns 5 = .ok (.iushr, 1) := by decide +kernel
theorem dX0_allColumns_6 : decode cX0_allColumns 6 = .ok (.ireturn, 1) := by decide +kernel
theorem dX0_swapRows_0 : decode cX0_swapRows 0 = .ok (.iload_n 1, 1) := by decide +kernel
theorem dX0_swapRows_1 : decode cX0_swapRows 1 = .ok (.iload_n 2, 1) := by decide +kernel
theorem dX0_swapRows_2 : decode cX0_swapRows 2 = .ok (.if_icmp .ne 20, 3) := by decide +kernel
theorem dX0_swapRows_5 : decode cX0_swapRows 5 = .ok (.aload_n 0, 1) := by decide +kernel
theorem dX0_swapRows_6 : decode cX0_swapRows 6 = .ok (.getfield 9, 3) := by decide +kernel
theorem dX0_swapRows_9 : decode cX0_swapRows 9 = .ok (.iload_n 1, 1) := by decide +kernel
theorem dX0_swapRows_10 : decode cX0_swapRows 10 = .ok (.dup2, 1) := by decide +kernel
theorem dX0_swapRows_11 : decode cX0_swapRows 11 = .ok (.iaload, 1) := by decide +kernel
theorem dX0_swapRows_12 : decode cX0_swapRows 12 = .ok (.aload_n 0, 1) := by decide +kernel
theorem dX0_swapRows_13 : decode cX0_swapRows 13 = .ok (.getfield 13, 3) := by decide +kernel
theorem dX0_swapRows_16 : decode cX0_swapRows 16 = .ok (.invokestatic 29, 3) := by decide +kernel
theorem dX0_swapRows_19 : decode cX0_swapRows 19 = .ok (.ixor, 1) := by decide +kernel
theorem dX0_swapRows_20 : decode cX0_swapRows 20 = .ok (.iastore, 1) := by decide +kernel
theorem dX0_swapRows_21 : decode cX0_swapRows 21 = .ok (.return_, 1) := by decide +kernel
theorem dX0_swapRows_22 : decode cX0_swapRows 22 = .ok (.aload_n 0, 1) := by decide +kernel
theorem dX0_swapRows_23 : decode cX0_swapRows 23 = .ok (.getfield 9, 3) := by decide +kernel
theorem dX0_swapRows_26 : decode cX0_swapRows 26 = .ok (.iload_n 1, 1) := by decide +kernel
theorem dX0_swapRows_27 : decode cX0_swapRows 27 = .ok (.iaload, 1) := by decide +kernel
theorem dX0_swapRows_28 : decode cX0_swapRows 28 = .ok (.istore_n 3, 1) := by decide +kernel
theorem dX0_swapRows_29 : decode cX0_swapRows 29 = .ok (.aload_n 0, 1) := by decide +kernel
theorem dX0_swapRows_30 : decode cX0_swapRows 30 = .ok (.getfield 9, 3) := by decide +kernel
theorem dX0_swapRows_33 : decode cX0_swapRows 33 = .ok (.iload_n 1, 1) := by decide +kernel
theorem dX0_swapRows_34 : decode cX0_swapRows 34 = .ok (.aload_n 0, 1) := by decide +kernel
theorem dX0_swapRows_35 : decode cX0_swapRows 35 = .ok (.getfield 9, 3) := by decide +kernel
theorem dX0_swapRows_38 : decode cX0_swapRows 38 = .ok (.iload_n 2, 1) := by decide +kernel
theorem dX0_swapRows_39 : decode cX0_swapRows 39 = .ok (.iaload, 1) := by decide +kernel
theorem dX0_swapRows_40 : decode cX0_swapRows 40 = .ok (.iastore, 1) := by decide +kernel
theorem dX0_swapRows_41 : decode cX0_swapRows 41 = .ok (.aload_n 0, 1) := by decide +kernel
theorem dX0_swapRows_42 : decode cX0_swapRows 42 = .ok (.getfield 9, 3) := by decide +kernel
theorem dX0_swapRows_45 : decode cX0_swapRows 45 = .ok (.iload_n 2, 1) := by decide +kernel
theorem dX0_swapRows_46 : decode cX0_swapRows 46 = .ok (.iload_n 3, 1) := by decide +kernel
theorem dX0_swapRows_47 : decode cX0_swapRows 47 = .ok (.iastore, 1) := by decide +kernel
theorem dX0_swapRows_48 : decode cX0_swapRows 48 = .ok (.return_, 1) := by decide +kernel
theorem dX0_signAt_0 : decode cX0_signAt 0 = .ok (.aload_n 0, 1) := by decide +kernel
theorem dX0_signAt_1 : decode cX0_signAt 1 = .ok (.getfield 9, 3) := by decide +kernel
theorem dX0_signAt_4 : decode cX0_signAt 4 = .ok (.iload_n 1, 1) := by decide +kernel
theorem dX0_signAt_5 : decode cX0_signAt 5 = .ok (.iaload, 1) := by decide +kernel
theorem dX0_signAt_6 : decode cX0_signAt 6 = .ok (.iload_n 2, 1) := by decide +kernel
theorem dX0_signAt_7 : decode cX0_signAt 7 = .ok (.ishr, 1) := by decide +kernel
theorem dX0_signAt_8 : decode cX0_signAt 8 = .ok (.iconst 1, 1) := by decide +kernel
theorem dX0_signAt_9 : decode cX0_signAt 9 = .ok (.iand, 1) := by decide +kernel
theorem dX0_signAt_10 : decode cX0_signAt 10 = .ok (.ifCond .ne 7, 3) := by decide +kernel
theorem dX0_signAt_13 : decode cX0_signAt 13 = .ok (.iconst 1, 1) := by decide +kernel
theorem dX0_signAt_14 : decode cX0_signAt 14 = .ok (.goto 4, 3) := by decide +kernel
theorem dX0_signAt_17 : decode cX0_signAt 17 = .ok (.iconst (-1), 1) := by decide +kernel
theorem dX0_signAt_18 : decode cX0_signAt 18 = .ok (.ireturn, 1) := by decide +kernel
theorem dX0_rowProduct_0 : decode cX0_rowProduct 0 = .ok (.aload_n 0, 1) := by decide +kernel
theorem dX0_rowProduct_1 : decode cX0_rowProduct 1 = .ok (.getfield 13, 3) := by decide +kernel
theorem dX0_rowProduct_4 : decode cX0_rowProduct 4 = .ok (.iconst 2, 1) := by decide +kernel
theorem dX0_rowProduct_5 : decode cX0_rowProduct 5 = .ok (.aload_n 0, 1) := by decide +kernel
theorem dX0_rowProduct_6 : decode cX0_rowProduct 6 = .ok (.getfield 9, 3) := by decide +kernel
theorem dX0_rowProduct_9 : decode cX0_rowProduct 9 = .ok (.iload_n 1, 1) := by decide +kernel
theorem dX0_rowProduct_10 : decode cX0_rowProduct 10 = .ok (.iaload, 1) := by decide +kernel
theorem dX0_rowProduct_11 : decode cX0_rowProduct 11 = .ok (.aload_n 0, 1) := by decide +kernel
theorem dX0_rowProduct_12 : decode cX0_rowProduct 12 = .ok (.getfield 9, 3) := by decide +kernel
theorem dX0_rowProduct_15 : decode cX0_rowProduct 15 = .ok (.iload_n 2, 1) := by decide +kernel
theorem dX0_rowProduct_16 : decode cX0_rowProduct 16 = .ok (.iaload, 1) := by decide +kernel
theorem dX0_rowProduct_17 : decode cX0_rowProduct 17 = .ok (.ixor, 1) := by decide +kernel
theorem dX0_rowProduct_18 : decode cX0_rowProduct 18 = .ok (.invokestatic 17, 3) := by decide +kernel
theorem dX0_rowProduct_21 : decode cX0_rowProduct 21 = .ok (.imul, 1) := by decide +kernel
theorem dX0_rowProduct_22 : decode cX0_rowProduct 22 = .ok (.isub, 1) := by decide +kernel
theorem dX0_rowProduct_23 : decode cX0_rowProduct 23 = .ok (.ireturn, 1) := by decide +kernel
end
section
theorem dX1_init_0 : decode cX1_init 0 = .ok (.aload_n 0, 1) := by decide +kernel
theorem dX1_init_1 : decode cX1_init 1 = .ok (.invokespecial 3, 3) := by decide +kernel
theorem dX1_init_4 : decode cX1_init 4 = .ok (.aload_n 0, 1) := by decide +kernel
theorem dX1_init_5 : decode cX1_init 5 = .ok (.iconst 3, 1) := by decide +kernel
theorem dX1_init_6 : decode cX1_init 6 = .ok (.bipush 60, 2) := by decide +kernel
theorem dX1_init_8 : decode cX1_init 8 = .ok (.multianewarray 9 2, 4) := by decide +kernel
theorem dX1_init_12 : decode cX1_init 12 = .ok (.putfield 11, 3) := by decide +kernel
theorem dX1_init_15 : decode cX1_init 15 = .ok (.aload_n 0, 1) := by decide +kernel
theorem dX1_init_16 : decode cX1_init 16 = .ok (.bipush 60, 2) := by decide +kernel
theorem dX1_init_18 : decode cX1_init 18 = .ok (.newarray .int, 2) := by decide +kernel
theorem dX1_init_20 : decode cX1_init 20 = .ok (.putfield 16, 3) := by decide +kernel
theorem dX1_init_23 : decode cX1_init 23 = .ok (.aload_n 0, 1) := by decide +kernel
theorem dX1_init_24 : decode cX1_init 24 = .ok (.iconst 1, 1) := by decide +kernel
theorem dX1_init_25 : decode cX1_init 25 = .ok (.putfield 20, 3) := by decide +kernel
theorem dX1_init_28 : decode cX1_init 28 = .ok (.return_, 1) := by decide +kernel
theorem dX1_isRow_0 : decode cX1_isRow 0 = .ok (.iload_n 0, 1) := by decide +kernel
theorem dX1_isRow_1 : decode cX1_isRow 1 = .ok (.ifCond .lt 12, 3) := by decide +kernel
theorem dX1_isRow_4 : decode cX1_isRow 4 = .ok (.iload_n 0, 1) := by decide +kernel
theorem dX1_isRow_5 : decode cX1_isRow 5 = .ok (.iconst 2, 1) := by decide +kernel
theorem dX1_isRow_6 : decode cX1_isRow 6 = .ok (.if_icmp .gt 7, 3) := by decide +kernel
theorem dX1_isRow_9 : decode cX1_isRow 9 = .ok (.iconst 1, 1) := by decide +kernel
theorem dX1_isRow_10 : decode cX1_isRow 10 = .ok (.goto 4, 3) := by decide +kernel
theorem dX1_isRow_13 : decode cX1_isRow 13 = .ok (.iconst 0, 1) := by decide +kernel
theorem dX1_isRow_14 : decode cX1_isRow 14 = .ok (.ireturn, 1) := by decide +kernel
theorem dX1_fits_0 : decode cX1_fits 0 = .ok (.iload_n 1, 1) := by decide +kernel
theorem dX1_fits_1 : decode cX1_fits 1 = .ok (.getstatic 24, 3) := by decide +kernel
theorem dX1_fits_4 : decode cX1_fits 4 = .ok (.iload_n 0, 1) := by decide +kernel
theorem dX1_fits_5 : decode cX1_fits 5 = .ok (.iaload, 1) := by decide +kernel
theorem dX1_fits_6 : decode cX1_fits 6 = .ok (.ineg, 1) := by decide +kernel
theorem dX1_fits_7 : decode cX1_fits 7 = .ok (.if_icmp .lt 16, 3) := by decide +kernel
theorem dX1_fits_10 : decode cX1_fits 10 = .ok (.iload_n 1, 1) := by decide +kernel
theorem dX1_fits_11 : decode cX1_fits 11 = .ok (.getstatic 24, 3) := by decide +kernel
theorem dX1_fits_14 : decode cX1_fits 14 = .ok (.iload_n 0, 1) := by decide +kernel
theorem dX1_fits_15 : decode cX1_fits 15 = .ok (.iaload, 1) := by decide +kernel
theorem dX1_fits_16 : decode cX1_fits 16 = .ok (.if_icmp .gt 7, 3) := by decide +kernel
theorem dX1_fits_19 : decode cX1_fits 19 = .ok (.iconst 1, 1) := by decide +kernel
theorem dX1_fits_20 : decode cX1_fits 20 = .ok (.goto 4, 3) := by decide +kernel
theorem dX1_fits_23 : decode cX1_fits 23 = .ok (.iconst 0, 1) := by decide +kernel
theorem dX1_fits_24 : decode cX1_fits 24 = .ok (.ireturn, 1) := by decide +kernel
theorem dX1_start_0 : decode cX1_start 0 = .ok (.aload_n 0, 1) := by decide +kernel
theorem dX1_start_1 : decode cX1_start 1 = .ok (.iload_n 1, 1) := by decide +kernel
theorem dX1_start_2 : decode cX1_start 2 = .ok (.putfield 20, 3) := by decide +kernel
theorem dX1_start_5 : decode cX1_start 5 = .ok (.iconst 0, 1) := by decide +kernel
theorem dX1_start_6 : decode cX1_start 6 = .ok (.istore_n 2, 1) := by decide +kernel
theorem dX1_start_7 : decode cX1_start 7 = .ok (.iload_n 2, 1) := by decide +kernel
theorem dX1_start_8 : decode cX1_start 8 = .ok (.iconst 2, 1) := by decide +kernel
theorem dX1_start_9 : decode cX1_start 9 = .ok (.if_icmp .gt 19, 3) := by decide +kernel
theorem dX1_start_12 : decode cX1_start 12 = .ok (.aload_n 0, 1) := by decide +kernel
theorem dX1_start_13 : decode cX1_start 13 = .ok (.getfield 11, 3) := by decide +kernel
theorem dX1_start_16 : decode cX1_start 16 = .ok (.iload_n 2, 1) := by decide +kernel
theorem dX1_start_17 : decode cX1_start 17 = .ok (.aaload, 1) := by decide +kernel
theorem dX1_start_18 : decode cX1_start 18 = .ok (.iconst 0, 1) := by decide +kernel
theorem dX1_start_19 : decode cX1_start 19 = .ok (.invokestatic 27, 3) := by decide +kernel
theorem dX1_start_22 : decode cX1_start 22 = .ok (.iinc 2 1, 3) := by decide +kernel
theorem dX1_start_25 : decode cX1_start 25 = .ok (.goto (-18), 3) := by decide +kernel
theorem dX1_start_28 : decode cX1_start 28 = .ok (.return_, 1) := by decide +kernel
theorem dX1_has_0 : decode cX1_has 0 = .ok (.iload_n 1, 1) := by decide +kernel
theorem dX1_has_1 : decode cX1_has 1 = .ok (.ifCond .lt 15, 3) := by decide +kernel
theorem dX1_has_4 : decode cX1_has 4 = .ok (.iload_n 1, 1) := by decide +kernel
theorem dX1_has_5 : decode cX1_has 5 = .ok (.aload_n 0, 1) := by decide +kernel
theorem dX1_has_6 : decode cX1_has 6 = .ok (.getfield 20, 3) := by decide +kernel
theorem dX1_has_9 : decode cX1_has 9 = .ok (.if_icmp .ge 7, 3) := by decide +kernel
theorem dX1_has_12 : decode cX1_has 12 = .ok (.iconst 1, 1) := by decide +kernel
theorem dX1_has_13 : decode cX1_has 13 = .ok (.goto 4, 3) := by decide +kernel
theorem dX1_has_16 : decode cX1_has 16 = .ok (.iconst 0, 1) := by decide +kernel
theorem dX1_has_17 : decode cX1_has 17 = .ok (.ireturn, 1) := by decide +kernel
theorem dX1_get_0 : decode cX1_get 0 = .ok (.aload_n 0, 1) := by decide +kernel
theorem dX1_get_1 : decode cX1_get 1 = .ok (.getfield 11, 3) := by decide +kernel
theorem dX1_get_4 : decode cX1_get 4 = .ok (.iload_n 1, 1) := by decide +kernel
theorem dX1_get_5 : decode cX1_get 5 = .ok (.aaload, 1) := by decide +kernel
theorem dX1_get_6 : decode cX1_get 6 = .ok (.iload_n 2, 1) := by decide +kernel
theorem dX1_get_7 : decode cX1_get 7 = .ok (.iaload, 1) := by decide +kernel
theorem dX1_get_8 : decode cX1_get 8 = .ok (.ireturn, 1) := by decide +kernel
theorem dX1_put_0 : decode cX1_put 0 = .ok (.aload_n 0, 1) := by decide +kernel
theorem dX1_put_1 : decode cX1_put 1 = .ok (.getfield 11, 3) := by decide +kernel
theorem dX1_put_4 : decode cX1_put 4 = .ok (.iload_n 1, 1) := by decide +kernel
theorem dX1_put_5 : decode cX1_put 5 = .ok (.aaload, 1) := by decide +kernel
theorem dX1_put_6 : decode cX1_put 6 = .ok (.iload_n 2, 1) := by decide +kernel
theorem dX1_put_7 : decode cX1_put 7 = .ok (.iload_n 3, 1) := by decide +kernel
theorem dX1_put_8 : decode cX1_put 8 = .ok (.iastore, 1) := by decide +kernel
theorem dX1_put_9 : decode cX1_put 9 = .ok (.return_, 1) := by decide +kernel
theorem dX1_wrap_0 : decode cX1_wrap 0 = .ok (.iload_n 1, 1) := by decide +kernel
theorem dX1_wrap_1 : decode cX1_wrap 1 = .ok (.ifCond .ge 12, 3) := by decide +kernel
theorem dX1_wrap_4 : decode cX1_wrap 4 = .ok (.iload_n 1, 1) := by decide +kernel
theorem dX1_wrap_5 : decode cX1_wrap 5 = .ok (.aload_n 0, 1) := by decide +kernel
theorem dX1_wrap_6 : decode cX1_wrap 6 = .ok (.getfield 20, 3) := by decide +kernel
theorem dX1_wrap_9 : decode cX1_wrap 9 = .ok (.iadd, 1) := by decide +kernel
theorem dX1_wrap_10 : decode cX1_wrap 10 = .ok (.goto 21, 3) := by decide +kernel
theorem dX1_wrap_13 : decode cX1_wrap 13 = .ok (.iload_n 1, 1) := by decide +kernel
theorem dX1_wrap_14 : decode cX1_wrap 14 = .ok (.aload_n 0, 1) := by decide +kernel
theorem dX1_wrap_15 : decode cX1_wrap 15 = .ok (.getfield 20, 3) := by decide +kernel
theorem dX1_wrap_18 : decode cX1_wrap 18 = .ok (.if_icmp .lt 12, 3) := by decide +kernel
theorem dX1_wrap_21 : decode cX1_wrap 21 = .ok (.iload_n 1, 1) := by decide +kernel
theorem dX1_wrap_22 : decode cX1_wrap 22 = .ok (.aload_n 0, 1) := by decide +kernel
theorem dX1_wrap_23 : decode cX1_wrap 23 = .ok (.getfield 20, 3) := by decide +kernel
theorem dX1_wrap_26 : decode cX1_wrap 26 = .ok (.isub, 1) := by decide +kernel
theorem dX1_wrap_27 : decode cX1_wrap 27 = .ok (.goto 4, 3) := by decide +kernel
theorem dX1_wrap_30 : decode cX1_wrap 30 = .ok (.iload_n 1, 1) := by decide +kernel
theorem dX1_wrap_31 : decode cX1_wrap 31 = .ok (.ireturn, 1) := by decide +kernel
theorem dX1_tally_0 : decode cX1_tally 0 = .ok (.iconst 0, 1) := by decide +kernel
theorem dX1_tally_1 : decode cX1_tally 1 = .ok (.istore_n 3, 1) := by decide +kernel
theorem dX1_tally_2 : decode cX1_tally 2 = .ok (.iconst 0, 1) := by decide +kernel
theorem dX1_tally_3 : decode cX1_tally 3 = .ok (.istore 4, 2) := by decide +kernel
theorem dX1_tally_5 : decode cX1_tally 5 = .ok (.iload 4, 2) := by decide +kernel
theorem dX1_tally_7 : decode cX1_tally 7 = .ok (.aload_n 0, 1) := by decide +kernel
theorem dX1_tally_8 : decode cX1_tally 8 = .ok (.getfield 20, 3) := by decide +kernel
theorem dX1_tally_11 : decode cX1_tally 11 = .ok (.if_icmp .ge 25, 3) := by decide +kernel
theorem dX1_tally_14 : decode cX1_tally 14 = .ok (.aload_n 0, 1) := by decide +kernel
theorem dX1_tally_15 : decode cX1_tally 15 = .ok (.getfield 11, 3) := by decide +kernel
theorem dX1_tally_18 : decode cX1_tally 18 = .ok (.iload_n 1, 1) := by decide +kernel
theorem dX1_tally_19 : decode cX1_tally 19 = .ok (.aaload, 1) := by decide +kernel
theorem dX1_tally_20 : decode cX1_tally 20 = .ok (.iload 4, 2) := by decide +kernel
theorem dX1_tally_22 : decode cX1_tally 22 = .ok (.iaload, 1) := by decide +kernel
theorem dX1_tally_23 : decode cX1_tally 23 = .ok (.iload_n 2, 1) := by decide +kernel
theorem dX1_tally_24 : decode cX1_tally 24 = .ok (.if_icmp .ne 6, 3) := by decide +kernel
theorem dX1_tally_27 : decode cX1_tally 27 = .ok (.iinc 3 1, 3) := by decide +kernel
theorem dX1_tally_30 : decode cX1_tally 30 = .ok (.iinc 4 1, 3) := by decide +kernel
theorem dX1_tally_33 : decode cX1_tally 33 = .ok (.goto (-28), 3) := by decide +kernel
theorem dX1_tally_36 : decode cX1_tally 36 = .ok (.iload_n 3, 1) := by decide +kernel
theorem dX1_tally_37 : decode cX1_tally 37 = .ok (.ireturn, 1) := by decide +kernel
theorem dX1_share_0 : decode cX1_share 0 = .ok (.aload_n 0, 1) := by decide +kernel
theorem dX1_share_1 : decode cX1_share 1 = .ok (.getfield 11, 3) := by decide +kernel
theorem dX1_share_4 : decode cX1_share 4 = .ok (.iconst 0, 1) := by decide +kernel
theorem dX1_share_5 : decode cX1_share 5 = .ok (.aaload, 1) := by decide +kernel
theorem dX1_share_6 : decode cX1_share 6 = .ok (.aload_n 0, 1) := by decide +kernel
theorem dX1_share_7 : decode cX1_share 7 = .ok (.iload_n 1, 1) := by decide +kernel
theorem dX1_share_8 : decode cX1_share 8 = .ok (.iload_n 2, 1) := by decide +kernel
theorem dX1_share_9 : decode cX1_share 9 = .ok (.isub, 1) := by decide +kernel
theorem dX1_share_10 : decode cX1_share 10 = .ok (.invokevirtual 33, 3) := by decide +kernel
theorem dX1_share_13 : decode cX1_share 13 = .ok (.iaload, 1) := by decide +kernel
theorem dX1_share_14 : decode cX1_share 14 = .ok (.ireturn, 1) := by decide +kernel
theorem dX1_shadowAt_0 : decode cX1_shadowAt 0 = .ok (.aload_n 0, 1) := by decide +kernel
theorem dX1_shadowAt_1 : decode cX1_shadowAt 1 = .ok (.aload_n 0, 1) := by decide +kernel
theorem dX1_shadowAt_2 : decode cX1_shadowAt 2 = .ok (.getfield 11, 3) := by decide +kernel
theorem dX1_shadowAt_5 : decode cX1_shadowAt 5 = .ok (.iconst 1, 1) := by decide +kernel
theorem dX1_shadowAt_6 : decode cX1_shadowAt 6 = .ok (.aaload, 1) := by decide +kernel
theorem dX1_shadowAt_7 : decode cX1_shadowAt 7 = .ok (.iload_n 1, 1) := by decide +kernel
theorem dX1_shadowAt_8 : decode cX1_shadowAt 8 = .ok (.invokevirtual 37, 3) := by decide +kernel
theorem dX1_shadowAt_11 : decode cX1_shadowAt 11 = .ok (.ireturn, 1) := by decide +kernel
theorem dX1_meetsAt_0 : decode cX1_meetsAt 0 = .ok (.aload_n 0, 1) := by decide +kernel
theorem dX1_meetsAt_1 : decode cX1_meetsAt 1 = .ok (.aload_n 0, 1) := by decide +kernel
theorem dX1_meetsAt_2 : decode cX1_meetsAt 2 = .ok (.getfield 11, 3) := by decide +kernel
theorem dX1_meetsAt_5 : decode cX1_meetsAt 5 = .ok (.iconst 0, 1) := by decide +kernel
theorem dX1_meetsAt_6 : decode cX1_meetsAt 6 = .ok (.aaload, 1) := by decide +kernel
theorem dX1_meetsAt_7 : decode cX1_meetsAt 7 = .ok (.iload_n 1, 1) := by decide +kernel
theorem dX1_meetsAt_8 : decode cX1_meetsAt 8 = .ok (.invokevirtual 37, 3) := by decide +kernel
theorem dX1_meetsAt_11 : decode cX1_meetsAt 11 = .ok (.ireturn, 1) := by decide +kernel
theorem dX1_throughMask_0 : decode cX1_throughMask 0 = .ok (.iconst 0, 1) := by decide +kernel
theorem dX1_throughMask_1 : decode cX1_throughMask 1 = .ok (.istore_n 3, 1) := by decide +kernel
theorem dX1_throughMask_2 : decode cX1_throughMask 2 = .ok (.iconst 0, 1) := by decide +kernel
theorem dX1_throughMask_3 : decode cX1_throughMask 3 = .ok (.istore 4, 2) := by decide +kernel
theorem dX1_throughMask_5 : decode cX1_throughMask 5 = .ok (.iload 4, 2) := by decide +kernel
theorem dX1_throughMask_7 : decode cX1_throughMask 7 = .ok (.aload_n 0, 1) := by decide +kernel
theorem dX1_throughMask_8 : decode cX1_throughMask 8 = .ok (.getfield 20, 3) := by decide +kernel
theorem dX1_throughMask_11 : decode cX1_throughMask 11 = .ok (.if_icmp .ge 32, 3) := by decide +kernel
theorem dX1_throughMask_14 : decode cX1_throughMask 14 = .ok (.iload_n 3, 1) := by decide +kernel
theorem dX1_throughMask_15 : decode cX1_throughMask 15 = .ok (.aload_n 0, 1) := by decide +kernel
theorem dX1_throughMask_16 : decode cX1_throughMask 16 = .ok (.getfield 11, 3) := by decide +kernel
theorem dX1_throughMask_19 : decode cX1_throughMask 19 = .ok (.iconst 0, 1) := by decide +kernel
theorem dX1_throughMask_20 : decode cX1_throughMask 20 = .ok (.aaload, 1) := by decide +kernel
theorem dX1_throughMask_21 : decode cX1_throughMask 21 = .ok (.iload 4, 2) := by decide +kernel
theorem dX1_throughMask_23 : decode cX1_throughMask 23 = .ok (.iaload, 1) := by decide +kernel
theorem dX1_throughMask_24 : decode cX1_throughMask 24 = .ok (.aload_n 1, 1) := by decide +kernel
theorem dX1_throughMask_25 : decode cX1_throughMask 25 = .ok (.aload_n 0, 1) := by decide +kernel
theorem dX1_throughMask_26 : decode cX1_throughMask 26 = .ok (.iload_n 2, 1) := by decide +kernel
theorem dX1_throughMask_27 : decode cX1_throughMask 27 = .ok (.iload 4, 2) := by decide +kernel
theorem dX1_throughMask_29 : decode cX1_throughMask 29 = .ok (.iadd, 1) := by decide +kernel
theorem dX1_throughMask_30 : decode cX1_throughMask 30 = .ok (.invokevirtual 33, 3) := by decide +kernel
theorem dX1_throughMask_33 : decode cX1_throughMask 33 = .ok (.iaload, 1) := by decide +kernel
theorem dX1_throughMask_34 : decode cX1_throughMask 34 = .ok (.imul, 1) := by decide +kernel
theorem dX1_throughMask_35 : decode cX1_throughMask 35 = .ok (.iadd, 1) := by decide +kernel
theorem dX1_throughMask_36 : decode cX1_throughMask 36 = .ok (.istore_n 3, 1) := by decide +kernel
theorem dX1_throughMask_37 : decode cX1_throughMask 37 = .ok (.iinc 4 1, 3) := by decide +kernel
theorem dX1_throughMask_40 : decode cX1_throughMask 40 = .ok (.goto (-35), 3) := by decide +kernel
theorem dX1_throughMask_43 : decode cX1_throughMask 43 = .ok (.iload_n 3, 1) := by decide +kernel
theorem dX1_throughMask_44 : decode cX1_throughMask 44 = .ok (.ireturn, 1) := by decide +kernel
theorem dX1_firstOff_0 : decode cX1_firstOff 0 = .ok (.iconst 2, 1) := by decide +kernel
theorem dX1_firstOff_1 : decode cX1_firstOff 1 = .ok (.istore_n 1, 1) := by decide +kernel
theorem dX1_firstOff_2 : decode cX1_firstOff 2 = .ok (.iload_n 1, 1) := by decide +kernel
theorem dX1_firstOff_3 : decode cX1_firstOff 3 = .ok (.aload_n 0, 1) := by decide +kernel
theorem dX1_firstOff_4 : decode cX1_firstOff 4 = .ok (.getfield 20, 3) := by decide +kernel
theorem dX1_firstOff_7 : decode cX1_firstOff 7 = .ok (.if_icmp .ge 24, 3) := by decide +kernel
theorem dX1_firstOff_10 : decode cX1_firstOff 10 = .ok (.aload_n 0, 1) := by decide +kernel
theorem dX1_firstOff_11 : decode cX1_firstOff 11 = .ok (.iload_n 1, 1) := by decide +kernel
theorem dX1_firstOff_12 : decode cX1_firstOff 12 = .ok (.invokevirtual 41, 3) := by decide +kernel
theorem dX1_firstOff_15 : decode cX1_firstOff 15 = .ok (.aload_n 0, 1) := by decide +kernel
theorem dX1_firstOff_16 : decode cX1_firstOff 16 = .ok (.iconst 1, 1) := by decide +kernel
theorem dX1_firstOff_17 : decode cX1_firstOff 17 = .ok (.invokevirtual 41, 3) := by decide +kernel
theorem dX1_firstOff_20 : decode cX1_firstOff 20 = .ok (.if_icmp .eq 5, 3) := by decide +kernel
theorem dX1_firstOff_23 : decode cX1_firstOff 23 = .ok (.iload_n 1, 1) := by decide +kernel
theorem dX1_firstOff_24 : decode cX1_firstOff 24 = .ok (.ireturn, 1) := by decide +kernel
theorem dX1_firstOff_25 : decode cX1_firstOff 25 = .ok (.iinc 1 1, 3) := by decide +kernel
theorem dX1_firstOff_28 : decode cX1_firstOff 28 = .ok (.goto (-26), 3) := by decide +kernel
theorem dX1_firstOff_31 : decode cX1_firstOff 31 = .ok (.iconst (-1), 1) := by decide +kernel
theorem dX1_firstOff_32 : decode cX1_firstOff 32 = .ok (.ireturn, 1) := by decide +kernel
theorem dX1_turnMask_0 : decode cX1_turnMask 0 = .ok (.aload_n 0, 1) := by decide +kernel
theorem dX1_turnMask_1 : decode cX1_turnMask 1 = .ok (.getfield 20, 3) := by decide +kernel
theorem dX1_turnMask_4 : decode cX1_turnMask 4 = .ok (.iconst 1, 1) := by decide +kernel
theorem dX1_turnMask_5 : decode cX1_turnMask 5 = .ok (.if_icmp .ge 7, 3) := by decide +kernel
theorem dX1_turnMask_8 : decode cX1_turnMask 8 = .ok (.iconst 0, 1) := by decide +kernel
theorem dX1_turnMask_9 : decode cX1_turnMask 9 = .ok (.goto 11, 3) := by decide +kernel
theorem dX1_turnMask_12 : decode cX1_turnMask 12 = .ok (.iload_n 1, 1) := by decide +kernel
theorem dX1_turnMask_13 : decode cX1_turnMask 13 = .ok (.aload_n 0, 1) := by decide +kernel
theorem dX1_turnMask_14 : decode cX1_turnMask 14 = .ok (.getfield 20, 3) := by decide +kernel
theorem dX1_turnMask_17 : decode cX1_turnMask 17 = .ok (.invokestatic 44, 3) := by decide +kernel
theorem dX1_turnMask_20 : decode cX1_turnMask 20 = .ok (.istore_n 2, 1) := by decide +kernel
theorem dX1_turnMask_21 : decode cX1_turnMask 21 = .ok (.iconst 0, 1) := by decide +kernel
theorem dX1_turnMask_22 : decode cX1_turnMask 22 = .ok (.istore_n 3, 1) := by decide +kernel
theorem dX1_turnMask_23 : decode cX1_turnMask 23 = .ok (.iload_n 3, 1) := by decide +kernel
theorem dX1_turnMask_24 : decode cX1_turnMask 24 = .ok (.aload_n 0, 1) := by decide +kernel
theorem dX1_turnMask_25 : decode cX1_turnMask 25 = .ok (.getfield 20, 3) := by decide +kernel
theorem dX1_turnMask_28 : decode cX1_turnMask 28 = .ok (.if_icmp .ge 29, 3) := by decide +kernel
theorem dX1_turnMask_31 : decode cX1_turnMask 31 = .ok (.aload_n 0, 1) := by decide +kernel
theorem dX1_turnMask_32 : decode cX1_turnMask 32 = .ok (.getfield 16, 3) := by decide +kernel
theorem dX1_turnMask_35 : decode cX1_turnMask 35 = .ok (.iload_n 3, 1) := by decide +kernel
theorem dX1_turnMask_36 : decode cX1_turnMask 36 = .ok (.aload_n 0, 1) := by decide +kernel
theorem dX1_turnMask_37 : decode cX1_turnMask 37 = .ok (.getfield 11, 3) := by decide +kernel
theorem dX1_turnMask_40 : decode cX1_turnMask 40 = .ok (.iconst 0, 1) := by decide +kernel
theorem dX1_turnMask_41 : decode cX1_turnMask 41 = .ok (.aaload, 1) := by decide +kernel
theorem dX1_turnMask_42 : decode cX1_turnMask 42 = .ok (.aload_n 0, 1) := by decide +kernel
theorem dX1_turnMask_43 : decode cX1_turnMask 43 = .ok (.iload_n 3, 1) := by decide +kernel
theorem dX1_turnMask_44 : decode cX1_turnMask 44 = .ok (.iload_n 2, 1) := by decide +kernel
theorem dX1_turnMask_45 : decode cX1_turnMask 45 = .ok (.iadd, 1) := by decide +kernel
theorem dX1_turnMask_46 : decode cX1_turnMask 46 = .ok (.invokevirtual 33, 3) := by decide +kernel
theorem dX1_turnMask_49 : decode cX1_turnMask 49 = .ok (.iaload, 1) := by decide +kernel
theorem dX1_turnMask_50 : decode cX1_turnMask 50 = .ok (.iastore, 1) := by decide +kernel
theorem dX1_turnMask_51 : decode cX1_turnMask 51 = .ok (.iinc 3 1, 3) := by decide +kernel
theorem dX1_turnMask_54 : decode cX1_turnMask 54 = .ok (.goto (-31), 3) := by decide +kernel
theorem dX1_turnMask_57 : decode cX1_turnMask 57 = .ok (.aload_n 0, 1) := by decide +kernel
theorem dX1_turnMask_58 : decode cX1_turnMask 58 = .ok (.getfield 16, 3) := by decide +kernel
theorem dX1_turnMask_61 : decode cX1_turnMask 61 = .ok (.iconst 0, 1) := by decide +kernel
theorem dX1_turnMask_62 : decode cX1_turnMask 62 = .ok (.aload_n 0, 1) := by decide +kernel
theorem dX1_turnMask_63 : decode cX1_turnMask 63 = .ok (.getfield 11, 3) := by decide +kernel
theorem dX1_turnMask_66 : decode cX1_turnMask 66 = .ok (.iconst 0, 1) := by decide +kernel
theorem dX1_turnMask_67 : decode cX1_turnMask 67 = .ok (.aaload, 1) := by decide +kernel
theorem dX1_turnMask_68 : decode cX1_turnMask 68 = .ok (.iconst 0, 1) := by decide +kernel
theorem dX1_turnMask_69 : decode cX1_turnMask 69 = .ok (.aload_n 0, 1) := by decide +kernel
theorem dX1_turnMask_70 : decode cX1_turnMask 70 = .ok (.getfield 20, 3) := by decide +kernel
theorem dX1_turnMask_73 : decode cX1_turnMask 73 = .ok (.invokestatic 50, 3) := by decide +kernel
theorem dX1_turnMask_76 : decode cX1_turnMask 76 = .ok (.return_, 1) := by decide +kernel
end
section
theorem dX2_init_0 : decode cX2_init 0 = .ok (.aload_n 0, 1) := by decide +kernel
theorem dX2_init_1 : decode cX2_init 1 = .ok (.invokespecial 3, 3) := by decide +kernel
theorem dX2_init_4 : decode cX2_init 4 = .ok (.aload_n 0, 1) := by decide +kernel
theorem dX2_init_5 : decode cX2_init 5 = .ok (.sipush 300, 3) := by decide +kernel
theorem dX2_init_8 : decode cX2_init 8 = .ok (.newarray .int, 2) := by decide +kernel
theorem dX2_init_10 : decode cX2_init 10 = .ok (.putfield 11, 3) := by decide +kernel
theorem dX2_init_13 : decode cX2_init 13 = .ok (.aload_n 0, 1) := by decide +kernel
theorem dX2_init_14 : decode cX2_init 14 = .ok (.sipush 300, 3) := by decide +kernel
theorem dX2_init_17 : decode cX2_init 17 = .ok (.newarray .int, 2) := by decide +kernel
theorem dX2_init_19 : decode cX2_init 19 = .ok (.putfield 15, 3) := by decide +kernel
theorem dX2_init_22 : decode cX2_init 22 = .ok (.aload_n 0, 1) := by decide +kernel
theorem dX2_init_23 : decode cX2_init 23 = .ok (.sipush 800, 3) := by decide +kernel
theorem dX2_init_26 : decode cX2_init 26 = .ok (.newarray .int, 2) := by decide +kernel
theorem dX2_init_28 : decode cX2_init 28 = .ok (.putfield 18, 3) := by decide +kernel
theorem dX2_init_31 : decode cX2_init 31 = .ok (.aload_n 0, 1) := by decide +kernel
theorem dX2_init_32 : decode cX2_init 32 = .ok (.iconst 0, 1) := by decide +kernel
theorem dX2_init_33 : decode cX2_init 33 = .ok (.putfield 21, 3) := by decide +kernel
theorem dX2_init_36 : decode cX2_init 36 = .ok (.return_, 1) := by decide +kernel
theorem dX2_search_0 : decode cX2_search 0 = .ok (.aload_n 0, 1) := by decide +kernel
theorem dX2_search_1 : decode cX2_search 1 = .ok (.iconst 0, 1) := by decide +kernel
theorem dX2_search_2 : decode cX2_search 2 = .ok (.putfield 21, 3) := by decide +kernel
theorem dX2_search_5 : decode cX2_search 5 = .ok (.aload_n 0, 1) := by decide +kernel
theorem dX2_search_6 : decode cX2_search 6 = .ok (.aload_n 1, 1) := by decide +kernel
theorem dX2_search_7 : decode cX2_search 7 = .ok (.iconst (-1), 1) := by decide +kernel
theorem dX2_search_8 : decode cX2_search 8 = .ok (.iconst (-1), 1) := by decide +kernel
theorem dX2_search_9 : decode cX2_search 9 = .ok (.iload_n 2, 1) := by decide +kernel
theorem dX2_search_10 : decode cX2_search 10 = .ok (.invokevirtual 25, 3) := by decide +kernel
theorem dX2_search_13 : decode cX2_search 13 = .ok (.aload_n 0, 1) := by decide +kernel
theorem dX2_search_14 : decode cX2_search 14 = .ok (.iconst 0, 1) := by decide +kernel
theorem dX2_search_15 : decode cX2_search 15 = .ok (.iconst 0, 1) := by decide +kernel
theorem dX2_search_16 : decode cX2_search 16 = .ok (.invokevirtual 29, 3) := by decide +kernel
theorem dX2_search_19 : decode cX2_search 19 = .ok (.ifCond .eq 11, 3) := by decide +kernel
theorem dX2_search_22 : decode cX2_search 22 = .ok (.aload_n 0, 1) := by decide +kernel
theorem dX2_search_23 : decode cX2_search 23 = .ok (.iconst (-1), 1) := by decide +kernel
theorem dX2_search_24 : decode cX2_search 24 = .ok (.iconst 0, 1) := by decide +kernel
theorem dX2_search_25 : decode cX2_search 25 = .ok (.iconst (-1), 1) := by decide +kernel
theorem dX2_search_26 : decode cX2_search 26 = .ok (.iconst 0, 1) := by decide +kernel
theorem dX2_search_27 : decode cX2_search 27 = .ok (.invokevirtual 33, 3) := by decide +kernel
theorem dX2_search_30 : decode cX2_search 30 = .ok (.iconst 0, 1) := by decide +kernel
theorem dX2_search_31 : decode cX2_search 31 = .ok (.istore_n 3, 1) := by decide +kernel
theorem dX2_search_32 : decode cX2_search 32 = .ok (.iload_n 3, 1) := by decide +kernel
theorem dX2_search_33 : decode cX2_search 33 = .ok (.aload_n 1, 1) := by decide +kernel
theorem dX2_search_34 : decode cX2_search 34 = .ok (.getfield 37, 3) := by decide +kernel
theorem dX2_search_37 : decode cX2_search 37 = .ok (.if_icmp .ge 61, 3) := by decide +kernel
theorem dX2_search_40 : decode cX2_search 40 = .ok (.aload_n 0, 1) := by decide +kernel
theorem dX2_search_41 : decode cX2_search 41 = .ok (.aload_n 1, 1) := by decide +kernel
theorem dX2_search_42 : decode cX2_search 42 = .ok (.iload_n 3, 1) := by decide +kernel
theorem dX2_search_43 : decode cX2_search 43 = .ok (.iconst (-1), 1) := by decide +kernel
theorem dX2_search_44 : decode cX2_search 44 = .ok (.iload_n 2, 1) := by decide +kernel
theorem dX2_search_45 : decode cX2_search 45 = .ok (.invokevirtual 25, 3) := by decide +kernel
theorem dX2_search_48 : decode cX2_search 48 = .ok (.iconst 1, 1) := by decide +kernel
theorem dX2_search_49 : decode cX2_search 49 = .ok (.istore 4, 2) := by decide +kernel
theorem dX2_search_51 : decode cX2_search 51 = .ok (.iload 4, 2) := by decide +kernel
theorem dX2_search_53 : decode cX2_search 53 = .ok (.bipush 9, 2) := by decide +kernel
theorem dX2_search_55 : decode cX2_search 55 = .ok (.if_icmp .gt 37, 3) := by decide +kernel
theorem dX2_search_58 : decode cX2_search 58 = .ok (.aload_n 0, 1) := by decide +kernel
theorem dX2_search_59 : decode cX2_search 59 = .ok (.iconst 0, 1) := by decide +kernel
theorem dX2_search_60 : decode cX2_search 60 = .ok (.iconst 0, 1) := by decide +kernel
theorem dX2_search_61 : decode cX2_search 61 = .ok (.invokevirtual 29, 3) := by decide +kernel
theorem dX2_search_64 : decode cX2_search 64 = .ok (.ifCond .eq 22, 3) := by decide +kernel
theorem dX2_search_67 : decode cX2_search 67 = .ok (.aload_n 0, 1) := by decide +kernel
theorem dX2_search_68 : decode cX2_search 68 = .ok (.iconst 3, 1) := by decide +kernel
theorem dX2_search_69 : decode cX2_search 69 = .ok (.iload 4, 2) := by decide +kernel
theorem dX2_search_71 : decode cX2_search 71 = .ok (.invokevirtual 29, 3) := by decide +kernel
theorem dX2_search_74 : decode cX2_search 74 = .ok (.ifCond .eq 12, 3) := by decide +kernel
theorem dX2_search_77 : decode cX2_search 77 = .ok (.aload_n 0, 1) := by decide +kernel
theorem dX2_search_78 : decode cX2_search 78 = .ok (.iload_n 3, 1) := by decide +kernel
theorem dX2_search_79 : decode cX2_search 79 = .ok (.iload 4, 2) := by decide +kernel
theorem dX2_search_81 : decode cX2_search 81 = .ok (.iconst (-1), 1) := by decide +kernel
theorem dX2_search_82 : decode cX2_search 82 = .ok (.iconst 0, 1) := by decide +kernel
theorem dX2_search_83 : decode cX2_search 83 = .ok (.invokevirtual 33, 3) := by decide +kernel
theorem dX2_search_86 : decode cX2_search 86 = .ok (.iinc 4 1, 3) := by decide +kernel
theorem dX2_search_89 : decode cX2_search 89 = .ok (.goto (-38), 3) := by decide +kernel
theorem dX2_search_92 : decode cX2_search 92 = .ok (.iinc 3 1, 3) := by decide +kernel
theorem dX2_search_95 : decode cX2_search 95 = .ok (.goto (-63), 3) := by decide +kernel
theorem dX2_search_98 : decode cX2_search 98 = .ok (.iconst 0, 1) := by decide +kernel
theorem dX2_search_99 : decode cX2_search 99 = .ok (.istore_n 3, 1) := by decide +kernel
theorem dX2_search_100 : decode cX2_search 100 = .ok (.iload_n 3, 1) := by decide +kernel
theorem dX2_search_101 : decode cX2_search 101 = .ok (.aload_n 1, 1) := by decide +kernel
theorem dX2_search_102 : decode cX2_search 102 = .ok (.getfield 37, 3) := by decide +kernel
theorem dX2_search_105 : decode cX2_search 105 = .ok (.if_icmp .ge 16, 3) := by decide +kernel
theorem dX2_search_108 : decode cX2_search 108 = .ok (.aload_n 0, 1) := by decide +kernel
theorem dX2_search_109 : decode cX2_search 109 = .ok (.aload_n 1, 1) := by decide +kernel
theorem dX2_search_110 : decode cX2_search 110 = .ok (.iload_n 3, 1) := by decide +kernel
theorem dX2_search_111 : decode cX2_search 111 = .ok (.iload_n 2, 1) := by decide +kernel
theorem dX2_search_112 : decode cX2_search 112 = .ok (.invokevirtual 42, 3) := by decide +kernel
theorem dX2_search_115 : decode cX2_search 115 = .ok (.iinc 3 1, 3) := by decide +kernel
theorem dX2_search_118 : decode cX2_search 118 = .ok (.goto (-18), 3) := by decide +kernel
theorem dX2_search_121 : decode cX2_search 121 = .ok (.return_, 1) := by decide +kernel
theorem dX2_searchPairs_0 : decode cX2_searchPairs 0 = .ok (.iload_n 2, 1) := by decide +kernel
theorem dX2_searchPairs_1 : decode cX2_searchPairs 1 = .ok (.iconst 1, 1) := by decide +kernel
theorem dX2_searchPairs_2 : decode cX2_searchPairs 2 = .ok (.iadd, 1) := by decide +kernel
theorem dX2_searchPairs_3 : decode cX2_searchPairs 3 = .ok (.istore 4, 2) := by decide +kernel
theorem dX2_searchPairs_5 : decode cX2_searchPairs 5 = .ok (.iload 4, 2) := by decide +kernel
theorem dX2_searchPairs_7 : decode cX2_searchPairs 7 = .ok (.aload_n 1, 1) := by decide +kernel
theorem dX2_searchPairs_8 : decode cX2_searchPairs 8 = .ok (.getfield 37, 3) := by decide +kernel
theorem dX2_searchPairs_11 : decode cX2_searchPairs 11 = .ok (.if_icmp .ge 18, 3) := by decide +kernel
theorem dX2_searchPairs_14 : decode cX2_searchPairs 14 = .ok (.aload_n 0, 1) := by decide +kernel
theorem dX2_searchPairs_15 : decode cX2_searchPairs 15 = .ok (.aload_n 1, 1) := by decide +kernel
theorem dX2_searchPairs_16 : decode cX2_searchPairs 16 = .ok (.iload_n 2, 1) := by decide +kernel
theorem dX2_searchPairs_17 : decode cX2_searchPairs 17 = .ok (.iload 4, 2) := by decide +kernel
theorem dX2_searchPairs_19 : decode cX2_searchPairs 19 = .ok (.iload_n 3, 1) := by decide +kernel
theorem dX2_searchPairs_20 : decode cX2_searchPairs 20 = .ok (.invokevirtual 25, 3) := by decide +kernel
theorem dX2_searchPairs_23 : decode cX2_searchPairs 23 = .ok (.iinc 4 1, 3) := by decide +kernel
theorem dX2_searchPairs_26 : decode cX2_searchPairs 26 = .ok (.goto (-21), 3) := by decide +kernel
theorem dX2_searchPairs_29 : decode cX2_searchPairs 29 = .ok (.iconst 1, 1) := by decide +kernel
theorem dX2_searchPairs_30 : decode cX2_searchPairs 30 = .ok (.istore 4, 2) := by decide +kernel
theorem dX2_searchPairs_32 : decode cX2_searchPairs 32 = .ok (.iload 4, 2) := by decide +kernel
theorem dX2_searchPairs_34 : decode cX2_searchPairs 34 = .ok (.bipush 9, 2) := by decide +kernel
theorem dX2_searchPairs_36 : decode cX2_searchPairs 36 = .ok (.if_icmp .gt 38, 3) := by decide +kernel
theorem dX2_searchPairs_39 : decode cX2_searchPairs 39 = .ok (.iload_n 2, 1) := by decide +kernel
theorem dX2_searchPairs_40 : decode cX2_searchPairs 40 = .ok (.iconst 1, 1) := by decide +kernel
theorem dX2_searchPairs_41 : decode cX2_searchPairs 41 = .ok (.iadd, 1) := by decide +kernel
theorem dX2_searchPairs_42 : decode cX2_searchPairs 42 = .ok (.istore 5, 2) := by decide +kernel
theorem dX2_searchPairs_44 : decode cX2_searchPairs 44 = .ok (.iload 5, 2) := by decide +kernel
theorem dX2_searchPairs_46 : decode cX2_searchPairs 46 = .ok (.aload_n 1, 1) := by decide +kernel
theorem dX2_searchPairs_47 : decode cX2_searchPairs 47 = .ok (.getfield 37, 3) := by decide +kernel
theorem dX2_searchPairs_50 : decode cX2_searchPairs 50 = .ok (.if_icmp .ge 18, 3) := by decide +kernel
theorem dX2_searchPairs_53 : decode cX2_searchPairs 53 = .ok (.aload_n 0, 1) := by decide +kernel
theorem dX2_searchPairs_54 : decode cX2_searchPairs 54 = .ok (.iload_n 2, 1) := by decide +kernel
theorem dX2_searchPairs_55 : decode cX2_searchPairs 55 = .ok (.iload 4, 2) := by decide +kernel
theorem dX2_searchPairs_57 : decode cX2_searchPairs 57 = .ok (.iload 5, 2) := by decide +kernel
theorem dX2_searchPairs_59 : decode cX2_searchPairs 59 = .ok (.invokevirtual 46, 3) := by decide +kernel
theorem dX2_searchPairs_62 : decode cX2_searchPairs 62 = .ok (.iinc 5 1, 3) := by decide +kernel
theorem dX2_searchPairs_65 : decode cX2_searchPairs 65 = .ok (.goto (-21), 3) := by decide +kernel
theorem dX2_searchPairs_68 : decode cX2_searchPairs 68 = .ok (.iinc 4 1, 3) := by decide +kernel
theorem dX2_searchPairs_71 : decode cX2_searchPairs 71 = .ok (.goto (-39), 3) := by decide +kernel
theorem dX2_searchPairs_74 : decode cX2_searchPairs 74 = .ok (.return_, 1) := by decide +kernel
theorem dX2_openWindows_0 : decode cX2_openWindows 0 = .ok (.iload_n 3, 1) := by decide +kernel
theorem dX2_openWindows_1 : decode cX2_openWindows 1 = .ok (.iconst (-1), 1) := by decide +kernel
theorem dX2_openWindows_2 : decode cX2_openWindows 2 = .ok (.if_icmp .ne 7, 3) := by decide +kernel
theorem dX2_openWindows_5 : decode cX2_openWindows 5 = .ok (.iconst 0, 1) := by decide +kernel
theorem dX2_openWindows_6 : decode cX2_openWindows 6 = .ok (.goto 6, 3) := by decide +kernel
theorem dX2_openWindows_9 : decode cX2_openWindows 9 = .ok (.iload_n 3, 1) := by decide +kernel
theorem dX2_openWindows_10 : decode cX2_openWindows 10 = .ok (.iconst 5, 1) := by decide +kernel
theorem dX2_openWindows_11 : decode cX2_openWindows 11 = .ok (.imul, 1) := by decide +kernel
theorem dX2_openWindows_12 : decode cX2_openWindows 12 = .ok (.istore 5, 2) := by decide +kernel
theorem dX2_openWindows_14 : decode cX2_openWindows 14 = .ok (.iload 5, 2) := by decide +kernel
theorem dX2_openWindows_16 : decode cX2_openWindows 16 = .ok (.istore 6, 2) := by decide +kernel
theorem dX2_openWindows_18 : decode cX2_openWindows 18 = .ok (.iload 6, 2) := by decide +kernel
theorem dX2_openWindows_20 : decode cX2_openWindows 20 = .ok (.iload 5, 2) := by decide +kernel
theorem dX2_openWindows_22 : decode cX2_openWindows 22 = .ok (.iconst 5, 1) := by decide +kernel
theorem dX2_openWindows_23 : decode cX2_openWindows 23 = .ok (.iadd, 1) := by decide +kernel
theorem dX2_openWindows_24 : decode cX2_openWindows 24 = .ok (.if_icmp .ge 27, 3) := by decide +kernel
theorem dX2_openWindows_27 : decode cX2_openWindows 27 = .ok (.aload_n 0, 1) := by decide +kernel
theorem dX2_openWindows_28 : decode cX2_openWindows 28 = .ok (.getfield 11, 3) := by decide +kernel
theorem dX2_openWindows_31 : decode cX2_openWindows 31 = .ok (.iload 6, 2) := by decide +kernel
theorem dX2_openWindows_33 : decode cX2_openWindows 33 = .ok (.ldc 50, 2) := by decide +kernel
theorem dX2_openWindows_35 : decode cX2_openWindows 35 = .ok (.iastore, 1) := by decide +kernel
theorem dX2_openWindows_36 : decode cX2_openWindows 36 = .ok (.aload_n 0, 1) := by decide +kernel
theorem dX2_openWindows_37 : decode cX2_openWindows 37 = .ok (.getfield 15, 3) := by decide +kernel
theorem dX2_openWindows_40 : decode cX2_openWindows 40 = .ok (.iload 6, 2) := by decide +kernel
theorem dX2_openWindows_42 : decode cX2_openWindows 42 = .ok (.ldc 51, 2) := by decide +kernel
theorem dX2_openWindows_44 : decode cX2_openWindows 44 = .ok (.iastore, 1) := by decide +kernel
theorem dX2_openWindows_45 : decode cX2_openWindows 45 = .ok (.iinc 6 1, 3) := by decide +kernel
theorem dX2_openWindows_48 : decode cX2_openWindows 48 = .ok (.goto (-30), 3) := by decide +kernel
theorem dX2_openWindows_51 : decode cX2_openWindows 51 = .ok (.iconst 0, 1) := by decide +kernel
theorem dX2_openWindows_52 : decode cX2_openWindows 52 = .ok (.istore 6, 2) := by decide +kernel
theorem dX2_openWindows_54 : decode cX2_openWindows 54 = .ok (.iload 6, 2) := by decide +kernel
theorem dX2_openWindows_56 : decode cX2_openWindows 56 = .ok (.aload_n 1, 1) := by decide +kernel
theorem dX2_openWindows_57 : decode cX2_openWindows 57 = .ok (.getfield 37, 3) := by decide +kernel
theorem dX2_openWindows_60 : decode cX2_openWindows 60 = .ok (.if_icmp .ge 158, 3) := by decide +kernel
theorem dX2_openWindows_63 : decode cX2_openWindows 63 = .ok (.aload_n 1, 1) := by decide +kernel
theorem dX2_openWindows_64 : decode cX2_openWindows 64 = .ok (.iconst 2, 1) := by decide +kernel
theorem dX2_openWindows_65 : decode cX2_openWindows 65 = .ok (.iload 6, 2) := by decide +kernel
theorem dX2_openWindows_67 : decode cX2_openWindows 67 = .ok (.invokevirtual 52, 3) := by decide +kernel
theorem dX2_openWindows_70 : decode cX2_openWindows 70 = .ok (.istore 7, 2) := by decide +kernel
theorem dX2_openWindows_72 : decode cX2_openWindows 72 = .ok (.iload 7, 2) := by decide +kernel
theorem dX2_openWindows_74 : decode cX2_openWindows 74 = .ok (.ldc 56, 2) := by decide +kernel
theorem dX2_openWindows_76 : decode cX2_openWindows 76 = .ok (.if_icmp .ne 6, 3) := by decide +kernel
theorem dX2_openWindows_79 : decode cX2_openWindows 79 = .ok (.goto 133, 3) := by decide +kernel
theorem dX2_openWindows_82 : decode cX2_openWindows 82 = .ok (.iload_n 2, 1) := by decide +kernel
theorem dX2_openWindows_83 : decode cX2_openWindows 83 = .ok (.iconst (-1), 1) := by decide +kernel
theorem dX2_openWindows_84 : decode cX2_openWindows 84 = .ok (.if_icmp .ne 7, 3) := by decide +kernel
theorem dX2_openWindows_87 : decode cX2_openWindows 87 = .ok (.iconst 0, 1) := by decide +kernel
theorem dX2_openWindows_88 : decode cX2_openWindows 88 = .ok (.goto 10, 3) := by decide +kernel
theorem dX2_openWindows_91 : decode cX2_openWindows 91 = .ok (.aload_n 1, 1) := by decide +kernel
theorem dX2_openWindows_92 : decode cX2_openWindows 92 = .ok (.iload_n 2, 1) := by decide +kernel
theorem dX2_openWindows_93 : decode cX2_openWindows 93 = .ok (.iload 6, 2) := by decide +kernel
theorem dX2_openWindows_95 : decode cX2_openWindows 95 = .ok (.invokevirtual 57, 3) := by decide +kernel
theorem dX2_openWindows_98 : decode cX2_openWindows 98 = .ok (.istore 8, 2) := by decide +kernel
theorem dX2_openWindows_100 : decode cX2_openWindows 100 = .ok (.iload_n 3, 1) := by decide +kernel
theorem dX2_openWindows_101 : decode cX2_openWindows 101 = .ok (.iconst (-1), 1) := by decide +kernel
theorem dX2_openWindows_102 : decode cX2_openWindows 102 = .ok (.if_icmp .ne 7, 3) := by decide +kernel
theorem dX2_openWindows_105 : decode cX2_openWindows 105 = .ok (.iconst 0, 1) := by decide +kernel
theorem dX2_openWindows_106 : decode cX2_openWindows 106 = .ok (.goto 10, 3) := by decide +kernel
theorem dX2_openWindows_109 : decode cX2_openWindows 109 = .ok (.aload_n 1, 1) := by decide +kernel
theorem dX2_openWindows_110 : decode cX2_openWindows 110 = .ok (.iload_n 3, 1) := by decide +kernel
theorem dX2_openWindows_111 : decode cX2_openWindows 111 = .ok (.iload 6, 2) := by decide +kernel
theorem dX2_openWindows_113 : decode cX2_openWindows 113 = .ok (.invokevirtual 57, 3) := by decide +kernel
theorem dX2_openWindows_116 : decode cX2_openWindows 116 = .ok (.istore 9, 2) := by decide +kernel
theorem dX2_openWindows_118 : decode cX2_openWindows 118 = .ok (.iconst 3, 1) := by decide +kernel
theorem dX2_openWindows_119 : decode cX2_openWindows 119 = .ok (.iload 8, 2) := by decide +kernel
theorem dX2_openWindows_121 : decode cX2_openWindows 121 = .ok (.imul, 1) := by decide +kernel
theorem dX2_openWindows_122 : decode cX2_openWindows 122 = .ok (.iload 9, 2) := by decide +kernel
theorem dX2_openWindows_124 : decode cX2_openWindows 124 = .ok (.iadd, 1) := by decide +kernel
theorem dX2_openWindows_125 : decode cX2_openWindows 125 = .ok (.istore 10, 2) := by decide +kernel
theorem dX2_openWindows_127 : decode cX2_openWindows 127 = .ok (.iload 10, 2) := by decide +kernel
theorem dX2_openWindows_129 : decode cX2_openWindows 129 = .ok (.ifCond .ge 9, 3) := by decide +kernel
theorem dX2_openWindows_132 : decode cX2_openWindows 132 = .ok (.iload 7, 2) := by decide +kernel
theorem dX2_openWindows_134 : decode cX2_openWindows 134 = .ok (.ineg, 1) := by decide +kernel
theorem dX2_openWindows_135 : decode cX2_openWindows 135 = .ok (.goto 5, 3) := by decide +kernel
theorem dX2_openWindows_138 : decode cX2_openWindows 138 = .ok (.iload 7, 2) := by decide +kernel
theorem dX2_openWindows_140 : decode cX2_openWindows 140 = .ok (.istore 11, 2) := by decide +kernel
theorem dX2_openWindows_142 : decode cX2_openWindows 142 = .ok (.iload 5, 2) := by decide +kernel
theorem dX2_openWindows_144 : decode cX2_openWindows 144 = .ok (.iload 10, 2) := by decide +kernel
theorem dX2_openWindows_146 : decode cX2_openWindows 146 = .ok (.invokestatic 60, 3) := by decide +kernel
theorem dX2_openWindows_149 : decode cX2_openWindows 149 = .ok (.iadd, 1) := by decide +kernel
theorem dX2_openWindows_150 : decode cX2_openWindows 150 = .ok (.istore 12, 2) := by decide +kernel
theorem dX2_openWindows_152 : decode cX2_openWindows 152 = .ok (.aload_n 0, 1) := by decide +kernel
theorem dX2_openWindows_153 : decode cX2_openWindows 153 = .ok (.getfield 11, 3) := by decide +kernel
theorem dX2_openWindows_156 : decode cX2_openWindows 156 = .ok (.iload 12, 2) := by decide +kernel
theorem dX2_openWindows_158 : decode cX2_openWindows 158 = .ok (.aload_n 0, 1) := by decide +kernel
theorem dX2_openWindows_159 : decode cX2_openWindows 159 = .ok (.getfield 11, 3) := by decide +kernel
theorem dX2_openWindows_162 : decode cX2_openWindows 162 = .ok (.iload 12, 2) := by decide +kernel
theorem dX2_openWindows_164 : decode cX2_openWindows 164 = .ok (.iaload, 1) := by decide +kernel
theorem dX2_openWindows_165 : decode cX2_openWindows 165 = .ok (.iload 11, 2) := by decide +kernel
theorem dX2_openWindows_167 : decode cX2_openWindows 167 = .ok (.iload 4, 2) := by decide +kernel
theorem dX2_openWindows_169 : decode cX2_openWindows 169 = .ok (.isub, 1) := by decide +kernel
theorem dX2_openWindows_170 : decode cX2_openWindows 170 = .ok (.invokestatic 66, 3) := by decide +kernel
theorem dX2_openWindows_173 : decode cX2_openWindows 173 = .ok (.iastore, 1) := by decide +kernel
theorem dX2_openWindows_174 : decode cX2_openWindows 174 = .ok (.aload_n 0, 1) := by decide +kernel
theorem dX2_openWindows_175 : decode cX2_openWindows 175 = .ok (.getfield 15, 3) := by decide +kernel
theorem dX2_openWindows_178 : decode cX2_openWindows 178 = .ok (.iload 12, 2) := by decide +kernel
theorem dX2_openWindows_180 : decode cX2_openWindows 180 = .ok (.aload_n 0, 1) := by decide +kernel
theorem dX2_openWindows_181 : decode cX2_openWindows 181 = .ok (.getfield 15, 3) := by decide +kernel
theorem dX2_openWindows_184 : decode cX2_openWindows 184 = .ok (.iload 12, 2) := by decide +kernel
theorem dX2_openWindows_186 : decode cX2_openWindows 186 = .ok (.iaload, 1) := by decide +kernel
theorem dX2_openWindows_187 : decode cX2_openWindows 187 = .ok (.iload 11, 2) := by decide +kernel
theorem dX2_openWindows_189 : decode cX2_openWindows 189 = .ok (.iload 4, 2) := by decide +kernel
theorem dX2_openWindows_191 : decode cX2_openWindows 191 = .ok (.iadd, 1) := by decide +kernel
theorem dX2_openWindows_192 : decode cX2_openWindows 192 = .ok (.invokestatic 69, 3) := by decide +kernel
theorem dX2_openWindows_195 : decode cX2_openWindows 195 = .ok (.iastore, 1) := by decide +kernel
theorem dX2_openWindows_196 : decode cX2_openWindows 196 = .ok (.iload 10, 2) := by decide +kernel
theorem dX2_openWindows_198 : decode cX2_openWindows 198 = .ok (.ifCond .ne 14, 3) := by decide +kernel
theorem dX2_openWindows_201 : decode cX2_openWindows 201 = .ok (.aload_n 0, 1) := by decide +kernel
theorem dX2_openWindows_202 : decode cX2_openWindows 202 = .ok (.iload 5, 2) := by decide +kernel
theorem dX2_openWindows_204 : decode cX2_openWindows 204 = .ok (.iconst 0, 1) := by decide +kernel
theorem dX2_openWindows_205 : decode cX2_openWindows 205 = .ok (.invokevirtual 29, 3) := by decide +kernel
theorem dX2_openWindows_208 : decode cX2_openWindows 208 = .ok (.ifCond .ne 4, 3) := by decide +kernel
theorem dX2_openWindows_211 : decode cX2_openWindows 211 = .ok (.return_, 1) := by decide +kernel
theorem dX2_openWindows_212 : decode cX2_openWindows 212 = .ok (.iinc 6 1, 3) := by decide +kernel
theorem dX2_openWindows_215 : decode cX2_openWindows 215 = .ok (.goto (-161), 3) := by decide +kernel
theorem dX2_openWindows_218 : decode cX2_openWindows 218 = .ok (.return_, 1) := by decide +kernel
theorem dX2_holds_0 : decode cX2_holds 0 = .ok (.aload_n 0, 1) := by decide +kernel
theorem dX2_holds_1 : decode cX2_holds 1 = .ok (.getfield 11, 3) := by decide +kernel
theorem dX2_holds_4 : decode cX2_holds 4 = .ok (.iload_n 1, 1) := by decide +kernel
theorem dX2_holds_5 : decode cX2_holds 5 = .ok (.iaload, 1) := by decide +kernel
theorem dX2_holds_6 : decode cX2_holds 6 = .ok (.iload_n 2, 1) := by decide +kernel
theorem dX2_holds_7 : decode cX2_holds 7 = .ok (.if_icmp .gt 17, 3) := by decide +kernel
theorem dX2_holds_10 : decode cX2_holds 10 = .ok (.iload_n 2, 1) := by decide +kernel
theorem dX2_holds_11 : decode cX2_holds 11 = .ok (.aload_n 0, 1) := by decide +kernel
theorem dX2_holds_12 : decode cX2_holds 12 = .ok (.getfield 15, 3) := by decide +kernel
theorem dX2_holds_15 : decode cX2_holds 15 = .ok (.iload_n 1, 1) := by decide +kernel
theorem dX2_holds_16 : decode cX2_holds 16 = .ok (.iaload, 1) := by decide +kernel
theorem dX2_holds_17 : decode cX2_holds 17 = .ok (.if_icmp .gt 7, 3) := by decide +kernel
theorem dX2_holds_20 : decode cX2_holds 20 = .ok (.iconst 1, 1) := by decide +kernel
theorem dX2_holds_21 : decode cX2_holds 21 = .ok (.goto 4, 3) := by decide +kernel
theorem dX2_holds_24 : decode cX2_holds 24 = .ok (.iconst 0, 1) := by decide +kernel
theorem dX2_holds_25 : decode cX2_holds 25 = .ok (.ireturn, 1) := by decide +kernel
theorem dX2_tellSeconds_0 : decode cX2_tellSeconds 0 = .ok (.iload_n 3, 1) := by decide +kernel
theorem dX2_tellSeconds_1 : decode cX2_tellSeconds 1 = .ok (.iconst 5, 1) := by decide +kernel
theorem dX2_tellSeconds_2 : decode cX2_tellSeconds 2 = .ok (.imul, 1) := by decide +kernel
theorem dX2_tellSeconds_3 : decode cX2_tellSeconds 3 = .ok (.istore 4, 2) := by decide +kernel
theorem dX2_tellSeconds_5 : decode cX2_tellSeconds 5 = .ok (.aload_n 0, 1) := by decide +kernel
theorem dX2_tellSeconds_6 : decode cX2_tellSeconds 6 = .ok (.iload 4, 2) := by decide +kernel
theorem dX2_tellSeconds_8 : decode cX2_tellSeconds 8 = .ok (.iconst 0, 1) := by decide +kernel
theorem dX2_tellSeconds_9 : decode cX2_tellSeconds 9 = .ok (.invokevirtual 29, 3) := by decide +kernel
theorem dX2_tellSeconds_12 : decode cX2_tellSeconds 12 = .ok (.ifCond .eq 15, 3) := by decide +kernel
theorem dX2_tellSeconds_15 : decode cX2_tellSeconds 15 = .ok (.aload_n 0, 1) := by decide +kernel
theorem dX2_tellSeconds_16 : decode cX2_tellSeconds 16 = .ok (.iload 4, 2) := by decide +kernel
theorem dX2_tellSeconds_18 : decode cX2_tellSeconds 18 = .ok (.iconst 3, 1) := by decide +kernel
theorem dX2_tellSeconds_19 : decode cX2_tellSeconds 19 = .ok (.iadd, 1) := by decide +kernel
theorem dX2_tellSeconds_20 : decode cX2_tellSeconds 20 = .ok (.iload_n 2, 1) := by decide +kernel
theorem dX2_tellSeconds_21 : decode cX2_tellSeconds 21 = .ok (.invokevirtual 29, 3) := by decide +kernel
theorem dX2_tellSeconds_24 : decode cX2_tellSeconds 24 = .ok (.ifCond .ne 4, 3) := by decide +kernel
theorem dX2_tellSeconds_27 : decode cX2_tellSeconds 27 = .ok (.return_, 1) := by decide +kernel
theorem dX2_tellSeconds_28 : decode cX2_tellSeconds 28 = .ok (.iconst 1, 1) := by decide +kernel
theorem dX2_tellSeconds_29 : decode cX2_tellSeconds 29 = .ok (.aload_n 0, 1) := by decide +kernel
theorem dX2_tellSeconds_30 : decode cX2_tellSeconds 30 = .ok (.getfield 11, 3) := by decide +kernel
theorem dX2_tellSeconds_33 : decode cX2_tellSeconds 33 = .ok (.iload 4, 2) := by decide +kernel
theorem dX2_tellSeconds_35 : decode cX2_tellSeconds 35 = .ok (.iconst 1, 1) := by decide +kernel
theorem dX2_tellSeconds_36 : decode cX2_tellSeconds 36 = .ok (.iadd, 1) := by decide +kernel
theorem dX2_tellSeconds_37 : decode cX2_tellSeconds 37 = .ok (.iaload, 1) := by decide +kernel
theorem dX2_tellSeconds_38 : decode cX2_tellSeconds 38 = .ok (.invokestatic 66, 3) := by decide +kernel
theorem dX2_tellSeconds_41 : decode cX2_tellSeconds 41 = .ok (.istore 5, 2) := by decide +kernel
theorem dX2_tellSeconds_43 : decode cX2_tellSeconds 43 = .ok (.iload 5, 2) := by decide +kernel
theorem dX2_tellSeconds_45 : decode cX2_tellSeconds 45 = .ok (.aload_n 0, 1) := by decide +kernel
theorem dX2_tellSeconds_46 : decode cX2_tellSeconds 46 = .ok (.getfield 11, 3) := by decide +kernel
theorem dX2_tellSeconds_49 : decode cX2_tellSeconds 49 = .ok (.iload 4, 2) := by decide +kernel
theorem dX2_tellSeconds_51 : decode cX2_tellSeconds 51 = .ok (.iconst 4, 1) := by decide +kernel
theorem dX2_tellSeconds_52 : decode cX2_tellSeconds 52 = .ok (.iadd, 1) := by decide +kernel
theorem dX2_tellSeconds_53 : decode cX2_tellSeconds 53 = .ok (.iaload, 1) := by decide +kernel
theorem dX2_tellSeconds_54 : decode cX2_tellSeconds 54 = .ok (.iload_n 2, 1) := by decide +kernel
theorem dX2_tellSeconds_55 : decode cX2_tellSeconds 55 = .ok (.isub, 1) := by decide +kernel
theorem dX2_tellSeconds_56 : decode cX2_tellSeconds 56 = .ok (.invokestatic 66, 3) := by decide +kernel
theorem dX2_tellSeconds_59 : decode cX2_tellSeconds 59 = .ok (.istore 5, 2) := by decide +kernel
theorem dX2_tellSeconds_61 : decode cX2_tellSeconds 61 = .ok (.iload 5, 2) := by decide +kernel
theorem dX2_tellSeconds_63 : decode cX2_tellSeconds 63 = .ok (.iload_n 2, 1) := by decide +kernel
theorem dX2_tellSeconds_64 : decode cX2_tellSeconds 64 = .ok (.aload_n 0, 1) := by decide +kernel
theorem dX2_tellSeconds_65 : decode cX2_tellSeconds 65 = .ok (.getfield 15, 3) := by decide +kernel
theorem dX2_tellSeconds_68 : decode cX2_tellSeconds 68 = .ok (.iload 4, 2) := by decide +kernel
theorem dX2_tellSeconds_70 : decode cX2_tellSeconds 70 = .ok (.iconst 2, 1) := by decide +kernel
theorem dX2_tellSeconds_71 : decode cX2_tellSeconds 71 = .ok (.iadd, 1) := by decide +kernel
theorem dX2_tellSeconds_72 : decode cX2_tellSeconds 72 = .ok (.iaload, 1) := by decide +kernel
theorem dX2_tellSeconds_73 : decode cX2_tellSeconds 73 = .ok (.isub, 1) := by decide +kernel
theorem dX2_tellSeconds_74 : decode cX2_tellSeconds 74 = .ok (.invokestatic 66, 3) := by decide +kernel
theorem dX2_tellSeconds_77 : decode cX2_tellSeconds 77 = .ok (.istore 5, 2) := by decide +kernel
theorem dX2_tellSeconds_79 : decode cX2_tellSeconds 79 = .ok (.bipush 9, 2) := by decide +kernel
theorem dX2_tellSeconds_81 : decode cX2_tellSeconds 81 = .ok (.aload_n 0, 1) := by decide +kernel
theorem dX2_tellSeconds_82 : decode cX2_tellSeconds 82 = .ok (.getfield 15, 3) := by decide +kernel
theorem dX2_tellSeconds_85 : decode cX2_tellSeconds 85 = .ok (.iload 4, 2) := by decide +kernel
theorem dX2_tellSeconds_87 : decode cX2_tellSeconds 87 = .ok (.iconst 1, 1) := by decide +kernel
theorem dX2_tellSeconds_88 : decode cX2_tellSeconds 88 = .ok (.iadd, 1) := by decide +kernel
theorem dX2_tellSeconds_89 : decode cX2_tellSeconds 89 = .ok (.iaload, 1) := by decide +kernel
theorem dX2_tellSeconds_90 : decode cX2_tellSeconds 90 = .ok (.invokestatic 69, 3) := by decide +kernel
theorem dX2_tellSeconds_93 : decode cX2_tellSeconds 93 = .ok (.istore 6, 2) := by decide +kernel
theorem dX2_tellSeconds_95 : decode cX2_tellSeconds 95 = .ok (.iload 6, 2) := by decide +kernel
theorem dX2_tellSeconds_97 : decode cX2_tellSeconds 97 = .ok (.aload_n 0, 1) := by decide +kernel
theorem dX2_tellSeconds_98 : decode cX2_tellSeconds 98 = .ok (.getfield 15, 3) := by decide +kernel
theorem dX2_tellSeconds_101 : decode cX2_tellSeconds 101 = .ok (.iload 4, 2) := by decide +kernel
theorem dX2_tellSeconds_103 : decode cX2_tellSeconds 103 = .ok (.iconst 4, 1) := by decide +kernel
theorem dX2_tellSeconds_104 : decode cX2_tellSeconds 104 = .ok (.iadd, 1) := by decide +kernel
theorem dX2_tellSeconds_105 : decode cX2_tellSeconds 105 = .ok (.iaload, 1) := by decide +kernel
theorem dX2_tellSeconds_106 : decode cX2_tellSeconds 106 = .ok (.iload_n 2, 1) := by decide +kernel
theorem dX2_tellSeconds_107 : decode cX2_tellSeconds 107 = .ok (.isub, 1) := by decide +kernel
theorem dX2_tellSeconds_108 : decode cX2_tellSeconds 108 = .ok (.invokestatic 69, 3) := by decide +kernel
theorem dX2_tellSeconds_111 : decode cX2_tellSeconds 111 = .ok (.istore 6, 2) := by decide +kernel
theorem dX2_tellSeconds_113 : decode cX2_tellSeconds 113 = .ok (.iload 6, 2) := by decide +kernel
theorem dX2_tellSeconds_115 : decode cX2_tellSeconds 115 = .ok (.iload_n 2, 1) := by decide +kernel
theorem dX2_tellSeconds_116 : decode cX2_tellSeconds 116 = .ok (.aload_n 0, 1) := by decide +kernel
theorem dX2_tellSeconds_117 : decode cX2_tellSeconds 117 = .ok (.getfield 11, 3) := by decide +kernel
theorem dX2_tellSeconds_120 : decode cX2_tellSeconds 120 = .ok (.iload 4, 2) := by decide +kernel
theorem dX2_tellSeconds_122 : decode cX2_tellSeconds 122 = .ok (.iconst 2, 1) := by decide +kernel
theorem dX2_tellSeconds_123 : decode cX2_tellSeconds 123 = .ok (.iadd, 1) := by decide +kernel
theorem dX2_tellSeconds_124 : decode cX2_tellSeconds 124 = .ok (.iaload, 1) := by decide +kernel
theorem dX2_tellSeconds_125 : decode cX2_tellSeconds 125 = .ok (.isub, 1) := by decide +kernel
theorem dX2_tellSeconds_126 : decode cX2_tellSeconds 126 = .ok (.invokestatic 69, 3) := by decide +kernel
theorem dX2_tellSeconds_129 : decode cX2_tellSeconds 129 = .ok (.istore 6, 2) := by decide +kernel
theorem dX2_tellSeconds_131 : decode cX2_tellSeconds 131 = .ok (.iload 5, 2) := by decide +kernel
theorem dX2_tellSeconds_133 : decode cX2_tellSeconds 133 = .ok (.istore 7, 2) := by decide +kernel
theorem dX2_tellSeconds_135 : decode cX2_tellSeconds 135 = .ok (.iload 7, 2) := by decide +kernel
theorem dX2_tellSeconds_137 : decode cX2_tellSeconds 137 = .ok (.iload 6, 2) := by decide +kernel
theorem dX2_tellSeconds_139 : decode cX2_tellSeconds 139 = .ok (.if_icmp .gt 28, 3) := by decide +kernel
theorem dX2_tellSeconds_142 : decode cX2_tellSeconds 142 = .ok (.aload_n 0, 1) := by decide +kernel
theorem dX2_tellSeconds_143 : decode cX2_tellSeconds 143 = .ok (.getfield 21, 3) := by decide +kernel
theorem dX2_tellSeconds_146 : decode cX2_tellSeconds 146 = .ok (.sipush 200, 3) := by decide +kernel
theorem dX2_tellSeconds_149 : decode cX2_tellSeconds 149 = .ok (.if_icmp .ge 18, 3) := by decide +kernel
theorem dX2_tellSeconds_152 : decode cX2_tellSeconds 152 = .ok (.aload_n 0, 1) := by decide +kernel
theorem dX2_tellSeconds_153 : decode cX2_tellSeconds 153 = .ok (.iload_n 1, 1) := by decide +kernel
theorem dX2_tellSeconds_154 : decode cX2_tellSeconds 154 = .ok (.iload_n 2, 1) := by decide +kernel
theorem dX2_tellSeconds_155 : decode cX2_tellSeconds 155 = .ok (.iload_n 3, 1) := by decide +kernel
theorem dX2_tellSeconds_156 : decode cX2_tellSeconds 156 = .ok (.iload 7, 2) := by decide +kernel
theorem dX2_tellSeconds_158 : decode cX2_tellSeconds 158 = .ok (.invokevirtual 33, 3) := by decide +kernel
theorem dX2_tellSeconds_161 : decode cX2_tellSeconds 161 = .ok (.iinc 7 1, 3) := by decide +kernel
theorem dX2_tellSeconds_164 : decode cX2_tellSeconds 164 = .ok (.goto (-29), 3) := by decide +kernel
theorem dX2_tellSeconds_167 : decode cX2_tellSeconds 167 = .ok (.aload_n 0, 1) := by decide +kernel
theorem dX2_tellSeconds_168 : decode cX2_tellSeconds 168 = .ok (.dup, 1) := by decide +kernel
theorem dX2_tellSeconds_169 : decode cX2_tellSeconds 169 = .ok (.getfield 21, 3) := by decide +kernel
theorem dX2_tellSeconds_172 : decode cX2_tellSeconds 172 = .ok (.iconst 0, 1) := by decide +kernel
theorem dX2_tellSeconds_173 : decode cX2_tellSeconds 173 = .ok (.iload 6, 2) := by decide +kernel
theorem dX2_tellSeconds_175 : decode cX2_tellSeconds 175 = .ok (.iload 7, 2) := by decide +kernel
theorem dX2_tellSeconds_177 : decode cX2_tellSeconds 177 = .ok (.isub, 1) := by decide +kernel
theorem dX2_tellSeconds_178 : decode cX2_tellSeconds 178 = .ok (.iconst 1, 1) := by decide +kernel
theorem dX2_tellSeconds_179 : decode cX2_tellSeconds 179 = .ok (.iadd, 1) := by decide +kernel
theorem dX2_tellSeconds_180 : decode cX2_tellSeconds 180 = .ok (.invokestatic 66, 3) := by decide +kernel
theorem dX2_tellSeconds_183 : decode cX2_tellSeconds 183 = .ok (.iadd, 1) := by decide +kernel
theorem dX2_tellSeconds_184 : decode cX2_tellSeconds 184 = .ok (.putfield 21, 3) := by decide +kernel
theorem dX2_tellSeconds_187 : decode cX2_tellSeconds 187 = .ok (.return_, 1) := by decide +kernel
theorem dX2_tell_0 : decode cX2_tell 0 = .ok (.aload_n 0, 1) := by decide +kernel
theorem dX2_tell_1 : decode cX2_tell 1 = .ok (.getfield 21, 3) := by decide +kernel
theorem dX2_tell_4 : decode cX2_tell 4 = .ok (.sipush 200, 3) := by decide +kernel
theorem dX2_tell_7 : decode cX2_tell 7 = .ok (.if_icmp .ge 50, 3) := by decide +kernel
theorem dX2_tell_10 : decode cX2_tell 10 = .ok (.aload_n 0, 1) := by decide +kernel
theorem dX2_tell_11 : decode cX2_tell 11 = .ok (.getfield 21, 3) := by decide +kernel
theorem dX2_tell_14 : decode cX2_tell 14 = .ok (.iconst 4, 1) := by decide +kernel
theorem dX2_tell_15 : decode cX2_tell 15 = .ok (.imul, 1) := by decide +kernel
theorem dX2_tell_16 : decode cX2_tell 16 = .ok (.istore 5, 2) := by decide +kernel
theorem dX2_tell_18 : decode cX2_tell 18 = .ok (.aload_n 0, 1) := by decide +kernel
theorem dX2_tell_19 : decode cX2_tell 19 = .ok (.getfield 18, 3) := by decide +kernel
theorem dX2_tell_22 : decode cX2_tell 22 = .ok (.iload 5, 2) := by decide +kernel
theorem dX2_tell_24 : decode cX2_tell 24 = .ok (.iload_n 1, 1) := by decide +kernel
theorem dX2_tell_25 : decode cX2_tell 25 = .ok (.iastore, 1) := by decide +kernel
theorem dX2_tell_26 : decode cX2_tell 26 = .ok (.aload_n 0, 1) := by decide +kernel
theorem dX2_tell_27 : decode cX2_tell 27 = .ok (.getfield 18, 3) := by decide +kernel
theorem dX2_tell_30 : decode cX2_tell 30 = .ok (.iload 5, 2) := by decide +kernel
theorem dX2_tell_32 : decode cX2_tell 32 = .ok (.iconst 1, 1) := by decide +kernel
theorem dX2_tell_33 : decode cX2_tell 33 = .ok (.iadd, 1) := by decide +kernel
theorem dX2_tell_34 : decode cX2_tell 34 = .ok (.iload_n 2, 1) := by decide +kernel
theorem dX2_tell_35 : decode cX2_tell 35 = .ok (.iastore, 1) := by decide +kernel
theorem dX2_tell_36 : decode cX2_tell 36 = .ok (.aload_n 0, 1) := by decide +kernel
theorem dX2_tell_37 : decode cX2_tell 37 = .ok (.getfield 18, 3) := by decide +kernel
theorem dX2_tell_40 : decode cX2_tell 40 = .ok (.iload 5, 2) := by decide +kernel
theorem dX2_tell_42 : decode cX2_tell 42 = .ok (.iconst 2, 1) := by decide +kernel
theorem dX2_tell_43 : decode cX2_tell 43 = .ok (.iadd, 1) := by decide +kernel
theorem dX2_tell_44 : decode cX2_tell 44 = .ok (.iload_n 3, 1) := by decide +kernel
theorem dX2_tell_45 : decode cX2_tell 45 = .ok (.iastore, 1) := by decide +kernel
theorem dX2_tell_46 : decode cX2_tell 46 = .ok (.aload_n 0, 1) := by decide +kernel
theorem dX2_tell_47 : decode cX2_tell 47 = .ok (.getfield 18, 3) := by decide +kernel
theorem dX2_tell_50 : decode cX2_tell 50 = .ok (.iload 5, 2) := by decide +kernel
theorem dX2_tell_52 : decode cX2_tell 52 = .ok (.iconst 3, 1) := by decide +kernel
theorem dX2_tell_53 : decode cX2_tell 53 = .ok (.iadd, 1) := by decide +kernel
theorem dX2_tell_54 : decode cX2_tell 54 = .ok (.iload 4, 2) := by decide +kernel
theorem dX2_tell_56 : decode cX2_tell 56 = .ok (.iastore, 1) := by decide +kernel
theorem dX2_tell_57 : decode cX2_tell 57 = .ok (.aload_n 0, 1) := by decide +kernel
theorem dX2_tell_58 : decode cX2_tell 58 = .ok (.dup, 1) := by decide +kernel
theorem dX2_tell_59 : decode cX2_tell 59 = .ok (.getfield 21, 3) := by decide +kernel
theorem dX2_tell_62 : decode cX2_tell 62 = .ok (.iconst 1, 1) := by decide +kernel
theorem dX2_tell_63 : decode cX2_tell 63 = .ok (.iadd, 1) := by decide +kernel
theorem dX2_tell_64 : decode cX2_tell 64 = .ok (.putfield 21, 3) := by decide +kernel
theorem dX2_tell_67 : decode cX2_tell 67 = .ok (.return_, 1) := by decide +kernel
theorem dX2_part_0 : decode cX2_part 0 = .ok (.iload_n 1, 1) := by decide +kernel
theorem dX2_part_1 : decode cX2_part 1 = .ok (.ifCond .lt 21, 3) := by decide +kernel
theorem dX2_part_4 : decode cX2_part 4 = .ok (.iload_n 1, 1) := by decide +kernel
theorem dX2_part_5 : decode cX2_part 5 = .ok (.aload_n 0, 1) := by decide +kernel
theorem dX2_part_6 : decode cX2_part 6 = .ok (.getfield 21, 3) := by decide +kernel
theorem dX2_part_9 : decode cX2_part 9 = .ok (.sipush 200, 3) := by decide +kernel
theorem dX2_part_12 : decode cX2_part 12 = .ok (.invokestatic 69, 3) := by decide +kernel
theorem dX2_part_15 : decode cX2_part 15 = .ok (.if_icmp .ge 7, 3) := by decide +kernel
theorem dX2_part_18 : decode cX2_part 18 = .ok (.iconst 1, 1) := by decide +kernel
theorem dX2_part_19 : decode cX2_part 19 = .ok (.goto 4, 3) := by decide +kernel
theorem dX2_part_22 : decode cX2_part 22 = .ok (.iconst 0, 1) := by decide +kernel
theorem dX2_part_23 : decode cX2_part 23 = .ok (.istore_n 3, 1) := by decide +kernel
theorem dX2_part_24 : decode cX2_part 24 = .ok (.iload_n 3, 1) := by decide +kernel
theorem dX2_part_25 : decode cX2_part 25 = .ok (.ifCond .eq 25, 3) := by decide +kernel
theorem dX2_part_28 : decode cX2_part 28 = .ok (.iload_n 2, 1) := by decide +kernel
theorem dX2_part_29 : decode cX2_part 29 = .ok (.ifCond .lt 21, 3) := by decide +kernel
theorem dX2_part_32 : decode cX2_part 32 = .ok (.iload_n 2, 1) := by decide +kernel
theorem dX2_part_33 : decode cX2_part 33 = .ok (.iconst 4, 1) := by decide +kernel
theorem dX2_part_34 : decode cX2_part 34 = .ok (.if_icmp .ge 16, 3) := by decide +kernel
theorem dX2_part_37 : decode cX2_part 37 = .ok (.aload_n 0, 1) := by decide +kernel
theorem dX2_part_38 : decode cX2_part 38 = .ok (.getfield 18, 3) := by decide +kernel
theorem dX2_part_41 : decode cX2_part 41 = .ok (.iload_n 1, 1) := by decide +kernel
theorem dX2_part_42 : decode cX2_part 42 = .ok (.iconst 4, 1) := by decide +kernel
theorem dX2_part_43 : decode cX2_part 43 = .ok (.imul, 1) := by decide +kernel
theorem dX2_part_44 : decode cX2_part 44 = .ok (.iload_n 2, 1) := by decide +kernel
theorem dX2_part_45 : decode cX2_part 45 = .ok (.iadd, 1) := by decide +kernel
theorem dX2_part_46 : decode cX2_part 46 = .ok (.iaload, 1) := by decide +kernel
theorem dX2_part_47 : decode cX2_part 47 = .ok (.goto 4, 3) := by decide +kernel
theorem dX2_part_50 : decode cX2_part 50 = .ok (.iconst (-1), 1) := by decide +kernel
theorem dX2_part_51 : decode cX2_part 51 = .ok (.ireturn, 1) := by decide +kernel
end
section
theorem dX3_init_0 : decode cX3_init 0 = .ok (.aload_n 0, 1) := by decide +kernel
theorem dX3_init_1 : decode cX3_init 1 = .ok (.invokespecial 3, 3) := by decide +kernel
theorem dX3_init_4 : decode cX3_init 4 = .ok (.aload_n 0, 1) := by decide +kernel
theorem dX3_init_5 : decode cX3_init 5 = .ok (.bipush 60, 2) := by decide +kernel
theorem dX3_init_7 : decode cX3_init 7 = .ok (.newarray .int, 2) := by decide +kernel
theorem dX3_init_9 : decode cX3_init 9 = .ok (.putfield 9, 3) := by decide +kernel
theorem dX3_init_12 : decode cX3_init 12 = .ok (.aload_n 0, 1) := by decide +kernel
theorem dX3_init_13 : decode cX3_init 13 = .ok (.iconst (-1), 1) := by decide +kernel
theorem dX3_init_14 : decode cX3_init 14 = .ok (.putfield 15, 3) := by decide +kernel
theorem dX3_init_17 : decode cX3_init 17 = .ok (.aload_n 0, 1) := by decide +kernel
theorem dX3_init_18 : decode cX3_init 18 = .ok (.iconst 0, 1) := by decide +kernel
theorem dX3_init_19 : decode cX3_init 19 = .ok (.putfield 19, 3) := by decide +kernel
theorem dX3_init_22 : decode cX3_init 22 = .ok (.return_, 1) := by decide +kernel
theorem dX3_take_0 : decode cX3_take 0 = .ok (.aload_n 0, 1) := by decide +kernel
theorem dX3_take_1 : decode cX3_take 1 = .ok (.iload_n 1, 1) := by decide +kernel
theorem dX3_take_2 : decode cX3_take 2 = .ok (.putfield 15, 3) := by decide +kernel
theorem dX3_take_5 : decode cX3_take 5 = .ok (.aload_n 0, 1) := by decide +kernel
theorem dX3_take_6 : decode cX3_take 6 = .ok (.iload_n 2, 1) := by decide +kernel
theorem dX3_take_7 : decode cX3_take 7 = .ok (.putfield 19, 3) := by decide +kernel
theorem dX3_take_10 : decode cX3_take 10 = .ok (.aload_n 0, 1) := by decide +kernel
theorem dX3_take_11 : decode cX3_take 11 = .ok (.getfield 9, 3) := by decide +kernel
theorem dX3_take_14 : decode cX3_take 14 = .ok (.iconst 0, 1) := by decide +kernel
theorem dX3_take_15 : decode cX3_take 15 = .ok (.invokestatic 22, 3) := by decide +kernel
theorem dX3_take_18 : decode cX3_take 18 = .ok (.return_, 1) := by decide +kernel
theorem dX3_drop_0 : decode cX3_drop 0 = .ok (.aload_n 0, 1) := by decide +kernel
theorem dX3_drop_1 : decode cX3_drop 1 = .ok (.iconst (-1), 1) := by decide +kernel
theorem dX3_drop_2 : decode cX3_drop 2 = .ok (.putfield 15, 3) := by decide +kernel
theorem dX3_drop_5 : decode cX3_drop 5 = .ok (.aload_n 0, 1) := by decide +kernel
theorem dX3_drop_6 : decode cX3_drop 6 = .ok (.iconst 0, 1) := by decide +kernel
theorem dX3_drop_7 : decode cX3_drop 7 = .ok (.putfield 19, 3) := by decide +kernel
theorem dX3_drop_10 : decode cX3_drop 10 = .ok (.return_, 1) := by decide +kernel
theorem dX3_write_0 : decode cX3_write 0 = .ok (.aload_n 0, 1) := by decide +kernel
theorem dX3_write_1 : decode cX3_write 1 = .ok (.getfield 9, 3) := by decide +kernel
theorem dX3_write_4 : decode cX3_write 4 = .ok (.iload_n 1, 1) := by decide +kernel
theorem dX3_write_5 : decode cX3_write 5 = .ok (.aload_n 0, 1) := by decide +kernel
theorem dX3_write_6 : decode cX3_write 6 = .ok (.getfield 15, 3) := by decide +kernel
theorem dX3_write_9 : decode cX3_write 9 = .ok (.ifCond .ne 8, 3) := by decide +kernel
theorem dX3_write_12 : decode cX3_write 12 = .ok (.iload_n 2, 1) := by decide +kernel
theorem dX3_write_13 : decode cX3_write 13 = .ok (.i2b, 1) := by decide +kernel
theorem dX3_write_14 : decode cX3_write 14 = .ok (.goto 17, 3) := by decide +kernel
theorem dX3_write_17 : decode cX3_write 17 = .ok (.aload_n 0, 1) := by decide +kernel
theorem dX3_write_18 : decode cX3_write 18 = .ok (.getfield 15, 3) := by decide +kernel
theorem dX3_write_21 : decode cX3_write 21 = .ok (.iconst 1, 1) := by decide +kernel
theorem dX3_write_22 : decode cX3_write 22 = .ok (.if_icmp .ne 8, 3) := by decide +kernel
theorem dX3_write_25 : decode cX3_write 25 = .ok (.iload_n 2, 1) := by decide +kernel
theorem dX3_write_26 : decode cX3_write 26 = .ok (.i2s, 1) := by decide +kernel
theorem dX3_write_27 : decode cX3_write 27 = .ok (.goto 4, 3) := by decide +kernel
theorem dX3_write_30 : decode cX3_write 30 = .ok (.iload_n 2, 1) := by decide +kernel
theorem dX3_write_31 : decode cX3_write 31 = .ok (.iastore, 1) := by decide +kernel
theorem dX3_write_32 : decode cX3_write 32 = .ok (.return_, 1) := by decide +kernel
theorem dX3_read_0 : decode cX3_read 0 = .ok (.iload_n 1, 1) := by decide +kernel
theorem dX3_read_1 : decode cX3_read 1 = .ok (.ifCond .lt 20, 3) := by decide +kernel
theorem dX3_read_4 : decode cX3_read 4 = .ok (.iload_n 1, 1) := by decide +kernel
theorem dX3_read_5 : decode cX3_read 5 = .ok (.aload_n 0, 1) := by decide +kernel
theorem dX3_read_6 : decode cX3_read 6 = .ok (.getfield 19, 3) := by decide +kernel
theorem dX3_read_9 : decode cX3_read 9 = .ok (.if_icmp .ge 12, 3) := by decide +kernel
theorem dX3_read_12 : decode cX3_read 12 = .ok (.aload_n 0, 1) := by decide +kernel
theorem dX3_read_13 : decode cX3_read 13 = .ok (.getfield 9, 3) := by decide +kernel
theorem dX3_read_16 : decode cX3_read 16 = .ok (.iload_n 1, 1) := by decide +kernel
theorem dX3_read_17 : decode cX3_read 17 = .ok (.iaload, 1) := by decide +kernel
theorem dX3_read_18 : decode cX3_read 18 = .ok (.goto 4, 3) := by decide +kernel
theorem dX3_read_21 : decode cX3_read 21 = .ok (.iconst 0, 1) := by decide +kernel
theorem dX3_read_22 : decode cX3_read 22 = .ok (.ireturn, 1) := by decide +kernel
end
section
theorem dX4_init_0 : decode cX4_init 0 = .ok (.aload_n 0, 1) := by decide +kernel
theorem dX4_init_1 : decode cX4_init 1 = .ok (.invokespecial 3, 3) := by decide +kernel
theorem dX4_init_4 : decode cX4_init 4 = .ok (.aload_n 0, 1) := by decide +kernel
theorem dX4_init_5 : decode cX4_init 5 = .ok (.bipush 14, 2) := by decide +kernel
theorem dX4_init_7 : decode cX4_init 7 = .ok (.bipush 15, 2) := by decide +kernel
theorem dX4_init_9 : decode cX4_init 9 = .ok (.multianewarray 11 2, 4) := by decide +kernel
theorem dX4_init_13 : decode cX4_init 13 = .ok (.putfield 13, 3) := by decide +kernel
theorem dX4_init_16 : decode cX4_init 16 = .ok (.aload_n 0, 1) := by decide +kernel
theorem dX4_init_17 : decode cX4_init 17 = .ok (.bipush 14, 2) := by decide +kernel
theorem dX4_init_19 : decode cX4_init 19 = .ok (.newarray .long, 2) := by decide +kernel
theorem dX4_init_21 : decode cX4_init 21 = .ok (.putfield 16, 3) := by decide +kernel
theorem dX4_init_24 : decode cX4_init 24 = .ok (.aload_n 0, 1) := by decide +kernel
theorem dX4_init_25 : decode cX4_init 25 = .ok (.bipush 14, 2) := by decide +kernel
theorem dX4_init_27 : decode cX4_init 27 = .ok (.newarray .long, 2) := by decide +kernel
theorem dX4_init_29 : decode cX4_init 29 = .ok (.putfield 20, 3) := by decide +kernel
theorem dX4_init_32 : decode cX4_init 32 = .ok (.aload_n 0, 1) := by decide +kernel
theorem dX4_init_33 : decode cX4_init 33 = .ok (.lconst 1, 1) := by decide +kernel
theorem dX4_init_34 : decode cX4_init 34 = .ok (.putfield 23, 3) := by decide +kernel
theorem dX4_init_37 : decode cX4_init 37 = .ok (.aload_n 0, 1) := by decide +kernel
theorem dX4_init_38 : decode cX4_init 38 = .ok (.iconst 0, 1) := by decide +kernel
theorem dX4_init_39 : decode cX4_init 39 = .ok (.putfield 27, 3) := by decide +kernel
theorem dX4_init_42 : decode cX4_init 42 = .ok (.return_, 1) := by decide +kernel
theorem dX4_reduce_0 : decode cX4_reduce 0 = .ok (.aload_n 1, 1) := by decide +kernel
theorem dX4_reduce_1 : decode cX4_reduce 1 = .ok (.getfield 31, 3) := by decide +kernel
theorem dX4_reduce_4 : decode cX4_reduce 4 = .ok (.bipush 14, 2) := by decide +kernel
theorem dX4_reduce_6 : decode cX4_reduce 6 = .ok (.invokestatic 37, 3) := by decide +kernel
theorem dX4_reduce_9 : decode cX4_reduce 9 = .ok (.istore_n 2, 1) := by decide +kernel
theorem dX4_reduce_10 : decode cX4_reduce 10 = .ok (.aload_n 0, 1) := by decide +kernel
theorem dX4_reduce_11 : decode cX4_reduce 11 = .ok (.aload_n 1, 1) := by decide +kernel
theorem dX4_reduce_12 : decode cX4_reduce 12 = .ok (.iload_n 2, 1) := by decide +kernel
theorem dX4_reduce_13 : decode cX4_reduce 13 = .ok (.invokevirtual 43, 3) := by decide +kernel
theorem dX4_reduce_16 : decode cX4_reduce 16 = .ok (.lconst 1, 1) := by decide +kernel
theorem dX4_reduce_17 : decode cX4_reduce 17 = .ok (.lstore_n 3, 1) := by decide +kernel
theorem dX4_reduce_18 : decode cX4_reduce 18 = .ok (.iconst 0, 1) := by decide +kernel
theorem dX4_reduce_19 : decode cX4_reduce 19 = .ok (.istore 5, 2) := by decide +kernel
theorem dX4_reduce_21 : decode cX4_reduce 21 = .ok (.iload 5, 2) := by decide +kernel
theorem dX4_reduce_23 : decode cX4_reduce 23 = .ok (.iload_n 2, 1) := by decide +kernel
theorem dX4_reduce_24 : decode cX4_reduce 24 = .ok (.if_icmp .ge 55, 3) := by decide +kernel
theorem dX4_reduce_27 : decode cX4_reduce 27 = .ok (.aload_n 0, 1) := by decide +kernel
theorem dX4_reduce_28 : decode cX4_reduce 28 = .ok (.iload 5, 2) := by decide +kernel
theorem dX4_reduce_30 : decode cX4_reduce 30 = .ok (.iload_n 2, 1) := by decide +kernel
theorem dX4_reduce_31 : decode cX4_reduce 31 = .ok (.invokevirtual 47, 3) := by decide +kernel
theorem dX4_reduce_34 : decode cX4_reduce 34 = .ok (.istore 6, 2) := by decide +kernel
theorem dX4_reduce_36 : decode cX4_reduce 36 = .ok (.iload 6, 2) := by decide +kernel
theorem dX4_reduce_38 : decode cX4_reduce 38 = .ok (.iconst (-1), 1) := by decide +kernel
theorem dX4_reduce_39 : decode cX4_reduce 39 = .ok (.if_icmp .ne 6, 3) := by decide +kernel
theorem dX4_reduce_42 : decode cX4_reduce 42 = .ok (.iload 5, 2) := by decide +kernel
theorem dX4_reduce_44 : decode cX4_reduce 44 = .ok (.ireturn, 1) := by decide +kernel
theorem dX4_reduce_45 : decode cX4_reduce 45 = .ok (.aload_n 0, 1) := by decide +kernel
theorem dX4_reduce_46 : decode cX4_reduce 46 = .ok (.iload 5, 2) := by decide +kernel
theorem dX4_reduce_48 : decode cX4_reduce 48 = .ok (.iload 6, 2) := by decide +kernel
theorem dX4_reduce_50 : decode cX4_reduce 50 = .ok (.iload_n 2, 1) := by decide +kernel
theorem dX4_reduce_51 : decode cX4_reduce 51 = .ok (.invokevirtual 50, 3) := by decide +kernel
theorem dX4_reduce_54 : decode cX4_reduce 54 = .ok (.aload_n 0, 1) := by decide +kernel
theorem dX4_reduce_55 : decode cX4_reduce 55 = .ok (.iload 5, 2) := by decide +kernel
theorem dX4_reduce_57 : decode cX4_reduce 57 = .ok (.iload_n 2, 1) := by decide +kernel
theorem dX4_reduce_58 : decode cX4_reduce 58 = .ok (.lload_n 3, 1) := by decide +kernel
theorem dX4_reduce_59 : decode cX4_reduce 59 = .ok (.invokevirtual 54, 3) := by decide +kernel
theorem dX4_reduce_62 : decode cX4_reduce 62 = .ok (.aload_n 0, 1) := by decide +kernel
theorem dX4_reduce_63 : decode cX4_reduce 63 = .ok (.getfield 13, 3) := by decide +kernel
theorem dX4_reduce_66 : decode cX4_reduce 66 = .ok (.iload 5, 2) := by decide +kernel
theorem dX4_reduce_68 : decode cX4_reduce 68 = .ok (.aaload, 1) := by decide +kernel
theorem dX4_reduce_69 : decode cX4_reduce 69 = .ok (.iload 5, 2) := by decide +kernel
theorem dX4_reduce_71 : decode cX4_reduce 71 = .ok (.laload, 1) := by decide +kernel
theorem dX4_reduce_72 : decode cX4_reduce 72 = .ok (.lstore_n 3, 1) := by decide +kernel
theorem dX4_reduce_73 : decode cX4_reduce 73 = .ok (.iinc 5 1, 3) := by decide +kernel
theorem dX4_reduce_76 : decode cX4_reduce 76 = .ok (.goto (-55), 3) := by decide +kernel
theorem dX4_reduce_79 : decode cX4_reduce 79 = .ok (.iload_n 2, 1) := by decide +kernel
theorem dX4_reduce_80 : decode cX4_reduce 80 = .ok (.ireturn, 1) := by decide +kernel
theorem dX4_fillCells_0 : decode cX4_fillCells 0 = .ok (.iconst 0, 1) := by decide +kernel
theorem dX4_fillCells_1 : decode cX4_fillCells 1 = .ok (.istore_n 3, 1) := by decide +kernel
theorem dX4_fillCells_2 : decode cX4_fillCells 2 = .ok (.iload_n 3, 1) := by decide +kernel
theorem dX4_fillCells_3 : decode cX4_fillCells 3 = .ok (.iload_n 2, 1) := by decide +kernel
theorem dX4_fillCells_4 : decode cX4_fillCells 4 = .ok (.if_icmp .ge 58, 3) := by decide +kernel
theorem dX4_fillCells_7 : decode cX4_fillCells 7 = .ok (.iconst 0, 1) := by decide +kernel
theorem dX4_fillCells_8 : decode cX4_fillCells 8 = .ok (.istore 4, 2) := by decide +kernel
theorem dX4_fillCells_10 : decode cX4_fillCells 10 = .ok (.iload 4, 2) := by decide +kernel
theorem dX4_fillCells_12 : decode cX4_fillCells 12 = .ok (.iload_n 2, 1) := by decide +kernel
theorem dX4_fillCells_13 : decode cX4_fillCells 13 = .ok (.if_icmp .ge 26, 3) := by decide +kernel
theorem dX4_fillCells_16 : decode cX4_fillCells 16 = .ok (.aload_n 0, 1) := by decide +kernel
theorem dX4_fillCells_17 : decode cX4_fillCells 17 = .ok (.getfield 13, 3) := by decide +kernel
theorem dX4_fillCells_20 : decode cX4_fillCells 20 = .ok (.iload_n 3, 1) := by decide +kernel
theorem dX4_fillCells_21 : decode cX4_fillCells 21 = .ok (.aaload, 1) := by decide +kernel
theorem dX4_fillCells_22 : decode cX4_fillCells 22 = .ok (.iload 4, 2) := by decide +kernel
theorem dX4_fillCells_24 : decode cX4_fillCells 24 = .ok (.aload_n 1, 1) := by decide +kernel
theorem dX4_fillCells_25 : decode cX4_fillCells 25 = .ok (.iload 4, 2) := by decide +kernel
theorem dX4_fillCells_27 : decode cX4_fillCells 27 = .ok (.iload_n 3, 1) := by decide +kernel
theorem dX4_fillCells_28 : decode cX4_fillCells 28 = .ok (.invokevirtual 58, 3) := by decide +kernel
theorem dX4_fillCells_31 : decode cX4_fillCells 31 = .ok (.i2l, 1) := by decide +kernel
theorem dX4_fillCells_32 : decode cX4_fillCells 32 = .ok (.lastore, 1) := by decide +kernel
theorem dX4_fillCells_33 : decode cX4_fillCells 33 = .ok (.iinc 4 1, 3) := by decide +kernel
theorem dX4_fillCells_36 : decode cX4_fillCells 36 = .ok (.goto (-26), 3) := by decide +kernel
theorem dX4_fillCells_39 : decode cX4_fillCells 39 = .ok (.aload_n 0, 1) := by decide +kernel
theorem dX4_fillCells_40 : decode cX4_fillCells 40 = .ok (.getfield 13, 3) := by decide +kernel
theorem dX4_fillCells_43 : decode cX4_fillCells 43 = .ok (.iload_n 3, 1) := by decide +kernel
theorem dX4_fillCells_44 : decode cX4_fillCells 44 = .ok (.aaload, 1) := by decide +kernel
theorem dX4_fillCells_45 : decode cX4_fillCells 45 = .ok (.iload_n 2, 1) := by decide +kernel
theorem dX4_fillCells_46 : decode cX4_fillCells 46 = .ok (.iload_n 3, 1) := by decide +kernel
theorem dX4_fillCells_47 : decode cX4_fillCells 47 = .ok (.ifCond .ne 7, 3) := by decide +kernel
theorem dX4_fillCells_50 : decode cX4_fillCells 50 = .ok (.lconst 1, 1) := by decide +kernel
theorem dX4_fillCells_51 : decode cX4_fillCells 51 = .ok (.goto 4, 3) := by decide +kernel
theorem dX4_fillCells_54 : decode cX4_fillCells 54 = .ok (.lconst 0, 1) := by decide +kernel
theorem dX4_fillCells_55 : decode cX4_fillCells 55 = .ok (.lastore, 1) := by decide +kernel
theorem dX4_fillCells_56 : decode cX4_fillCells 56 = .ok (.iinc 3 1, 3) := by decide +kernel
theorem dX4_fillCells_59 : decode cX4_fillCells 59 = .ok (.goto (-57), 3) := by decide +kernel
theorem dX4_fillCells_62 : decode cX4_fillCells 62 = .ok (.return_, 1) := by decide +kernel
theorem dX4_rowToLead_0 : decode cX4_rowToLead 0 = .ok (.iload_n 1, 1) := by decide +kernel
theorem dX4_rowToLead_1 : decode cX4_rowToLead 1 = .ok (.istore_n 3, 1) := by decide +kernel
theorem dX4_rowToLead_2 : decode cX4_rowToLead 2 = .ok (.iload_n 3, 1) := by decide +kernel
theorem dX4_rowToLead_3 : decode cX4_rowToLead 3 = .ok (.iload_n 2, 1) := by decide +kernel
theorem dX4_rowToLead_4 : decode cX4_rowToLead 4 = .ok (.if_icmp .ge 24, 3) := by decide +kernel
theorem dX4_rowToLead_7 : decode cX4_rowToLead 7 = .ok (.aload_n 0, 1) := by decide +kernel
theorem dX4_rowToLead_8 : decode cX4_rowToLead 8 = .ok (.getfield 13, 3) := by decide +kernel
theorem dX4_rowToLead_11 : decode cX4_rowToLead 11 = .ok (.iload_n 3, 1) := by decide +kernel
theorem dX4_rowToLead_12 : decode cX4_rowToLead 12 = .ok (.aaload, 1) := by decide +kernel
theorem dX4_rowToLead_13 : decode cX4_rowToLead 13 = .ok (.iload_n 1, 1) := by decide +kernel
theorem dX4_rowToLead_14 : decode cX4_rowToLead 14 = .ok (.laload, 1) := by decide +kernel
theorem dX4_rowToLead_15 : decode cX4_rowToLead 15 = .ok (.lconst 0, 1) := by decide +kernel
theorem dX4_rowToLead_16 : decode cX4_rowToLead 16 = .ok (.lcmp, 1) := by decide +kernel
theorem dX4_rowToLead_17 : decode cX4_rowToLead 17 = .ok (.ifCond .eq 5, 3) := by decide +kernel
theorem dX4_rowToLead_20 : decode cX4_rowToLead 20 = .ok (.iload_n 3, 1) := by decide +kernel
theorem dX4_rowToLead_21 : decode cX4_rowToLead 21 = .ok (.ireturn, 1) := by decide +kernel
theorem dX4_rowToLead_22 : decode cX4_rowToLead 22 = .ok (.iinc 3 1, 3) := by decide +kernel
theorem dX4_rowToLead_25 : decode cX4_rowToLead 25 = .ok (.goto (-23), 3) := by decide +kernel
theorem dX4_rowToLead_28 : decode cX4_rowToLead 28 = .ok (.iconst (-1), 1) := by decide +kernel
theorem dX4_rowToLead_29 : decode cX4_rowToLead 29 = .ok (.ireturn, 1) := by decide +kernel
theorem dX4_swapCells_0 : decode cX4_swapCells 0 = .ok (.iconst 0, 1) := by decide +kernel
theorem dX4_swapCells_1 : decode cX4_swapCells 1 = .ok (.istore 4, 2) := by decide +kernel
theorem dX4_swapCells_3 : decode cX4_swapCells 3 = .ok (.iload 4, 2) := by decide +kernel
theorem dX4_swapCells_5 : decode cX4_swapCells 5 = .ok (.iload_n 3, 1) := by decide +kernel
theorem dX4_swapCells_6 : decode cX4_swapCells 6 = .ok (.if_icmp .gt 49, 3) := by decide +kernel
theorem dX4_swapCells_9 : decode cX4_swapCells 9 = .ok (.aload_n 0, 1) := by decide +kernel
theorem dX4_swapCells_10 : decode cX4_swapCells 10 = .ok (.getfield 13, 3) := by decide +kernel
theorem dX4_swapCells_13 : decode cX4_swapCells 13 = .ok (.iload_n 1, 1) := by decide +kernel
theorem dX4_swapCells_14 : decode cX4_swapCells 14 = .ok (.aaload, 1) := by decide +kernel
theorem dX4_swapCells_15 : decode cX4_swapCells 15 = .ok (.iload 4, 2) := by decide +kernel
theorem dX4_swapCells_17 : decode cX4_swapCells 17 = .ok (.laload, 1) := by decide +kernel
theorem dX4_swapCells_18 : decode cX4_swapCells 18 = .ok (.lstore 5, 2) := by decide +kernel
theorem dX4_swapCells_20 : decode cX4_swapCells 20 = .ok (.aload_n 0, 1) := by decide +kernel
theorem dX4_swapCells_21 : decode cX4_swapCells 21 = .ok (.getfield 13, 3) := by decide +kernel
theorem dX4_swapCells_24 : decode cX4_swapCells 24 = .ok (.iload_n 1, 1) := by decide +kernel
theorem dX4_swapCells_25 : decode cX4_swapCells 25 = .ok (.aaload, 1) := by decide +kernel
theorem dX4_swapCells_26 : decode cX4_swapCells 26 = .ok (.iload 4, 2) := by decide +kernel
theorem dX4_swapCells_28 : decode cX4_swapCells 28 = .ok (.aload_n 0, 1) := by decide +kernel
theorem dX4_swapCells_29 : decode cX4_swapCells 29 = .ok (.getfield 13, 3) := by decide +kernel
theorem dX4_swapCells_32 : decode cX4_swapCells 32 = .ok (.iload_n 2, 1) := by decide +kernel
theorem dX4_swapCells_33 : decode cX4_swapCells 33 = .ok (.aaload, 1) := by decide +kernel
theorem dX4_swapCells_34 : decode cX4_swapCells 34 = .ok (.iload 4, 2) := by decide +kernel
theorem dX4_swapCells_36 : decode cX4_swapCells 36 = .ok (.laload, 1) := by decide +kernel
theorem dX4_swapCells_37 : decode cX4_swapCells 37 = .ok (.lastore, 1) := by decide +kernel
theorem dX4_swapCells_38 : decode cX4_swapCells 38 = .ok (.aload_n 0, 1) := by decide +kernel
theorem dX4_swapCells_39 : decode cX4_swapCells 39 = .ok (.getfield 13, 3) := by decide +kernel
theorem dX4_swapCells_42 : decode cX4_swapCells 42 = .ok (.iload_n 2, 1) := by decide +kernel
theorem dX4_swapCells_43 : decode cX4_swapCells 43 = .ok (.aaload, 1) := by decide +kernel
theorem dX4_swapCells_44 : decode cX4_swapCells 44 = .ok (.iload 4, 2) := by decide +kernel
theorem dX4_swapCells_46 : decode cX4_swapCells 46 = .ok (.lload 5, 2) := by decide +kernel
theorem dX4_swapCells_48 : decode cX4_swapCells 48 = .ok (.lastore, 1) := by decide +kernel
theorem dX4_swapCells_49 : decode cX4_swapCells 49 = .ok (.iinc 4 1, 3) := by decide +kernel
theorem dX4_swapCells_52 : decode cX4_swapCells 52 = .ok (.goto (-49), 3) := by decide +kernel
theorem dX4_swapCells_55 : decode cX4_swapCells 55 = .ok (.return_, 1) := by decide +kernel
theorem dX4_clearColumn_0 : decode cX4_clearColumn 0 = .ok (.aload_n 0, 1) := by decide +kernel
theorem dX4_clearColumn_1 : decode cX4_clearColumn 1 = .ok (.getfield 13, 3) := by decide +kernel
theorem dX4_clearColumn_4 : decode cX4_clearColumn 4 = .ok (.iload_n 1, 1) := by decide +kernel
theorem dX4_clearColumn_5 : decode cX4_clearColumn 5 = .ok (.aaload, 1) := by decide +kernel
theorem dX4_clearColumn_6 : decode cX4_clearColumn 6 = .ok (.iload_n 1, 1) := by decide +kernel
theorem dX4_clearColumn_7 : decode cX4_clearColumn 7 = .ok (.laload, 1) := by decide +kernel
theorem dX4_clearColumn_8 : decode cX4_clearColumn 8 = .ok (.lstore 5, 2) := by decide +kernel
theorem dX4_clearColumn_10 : decode cX4_clearColumn 10 = .ok (.iconst 0, 1) := by decide +kernel
theorem dX4_clearColumn_11 : decode cX4_clearColumn 11 = .ok (.istore 7, 2) := by decide +kernel
theorem dX4_clearColumn_13 : decode cX4_clearColumn 13 = .ok (.iload 7, 2) := by decide +kernel
theorem dX4_clearColumn_15 : decode cX4_clearColumn 15 = .ok (.iload_n 2, 1) := by decide +kernel
theorem dX4_clearColumn_16 : decode cX4_clearColumn 16 = .ok (.if_icmp .ge 81, 3) := by decide +kernel
theorem dX4_clearColumn_19 : decode cX4_clearColumn 19 = .ok (.aload_n 0, 1) := by decide +kernel
theorem dX4_clearColumn_20 : decode cX4_clearColumn 20 = .ok (.getfield 13, 3) := by decide +kernel
theorem dX4_clearColumn_23 : decode cX4_clearColumn 23 = .ok (.iload 7, 2) := by decide +kernel
theorem dX4_clearColumn_25 : decode cX4_clearColumn 25 = .ok (.aaload, 1) := by decide +kernel
theorem dX4_clearColumn_26 : decode cX4_clearColumn 26 = .ok (.iload_n 1, 1) := by decide +kernel
theorem dX4_clearColumn_27 : decode cX4_clearColumn 27 = .ok (.laload, 1) := by decide +kernel
theorem dX4_clearColumn_28 : decode cX4_clearColumn 28 = .ok (.lstore 8, 2) := by decide +kernel
theorem dX4_clearColumn_30 : decode cX4_clearColumn 30 = .ok (.iconst 0, 1) := by decide +kernel
theorem dX4_clearColumn_31 : decode cX4_clearColumn 31 = .ok (.istore 10, 2) := by decide +kernel
theorem dX4_clearColumn_33 : decode cX4_clearColumn 33 = .ok (.iload 10, 2) := by decide +kernel
theorem dX4_clearColumn_35 : decode cX4_clearColumn 35 = .ok (.iload_n 2, 1) := by decide +kernel
theorem dX4_clearColumn_36 : decode cX4_clearColumn 36 = .ok (.if_icmp .gt 55, 3) := by decide +kernel
theorem dX4_clearColumn_39 : decode cX4_clearColumn 39 = .ok (.iload 7, 2) := by decide +kernel
theorem dX4_clearColumn_41 : decode cX4_clearColumn 41 = .ok (.iload_n 1, 1) := by decide +kernel
theorem dX4_clearColumn_42 : decode cX4_clearColumn 42 = .ok (.if_icmp .eq 49, 3) := by decide +kernel
theorem dX4_clearColumn_45 : decode cX4_clearColumn 45 = .ok (.aload_n 0, 1) := by decide +kernel
theorem dX4_clearColumn_46 : decode cX4_clearColumn 46 = .ok (.getfield 13, 3) := by decide +kernel
theorem dX4_clearColumn_49 : decode cX4_clearColumn 49 = .ok (.iload 7, 2) := by decide +kernel
theorem dX4_clearColumn_51 : decode cX4_clearColumn 51 = .ok (.aaload, 1) := by decide +kernel
theorem dX4_clearColumn_52 : decode cX4_clearColumn 52 = .ok (.iload 10, 2) := by decide +kernel
theorem dX4_clearColumn_54 : decode cX4_clearColumn 54 = .ok (.lload 5, 2) := by decide +kernel
theorem dX4_clearColumn_56 : decode cX4_clearColumn 56 = .ok (.aload_n 0, 1) := by decide +kernel
theorem dX4_clearColumn_57 : decode cX4_clearColumn 57 = .ok (.getfield 13, 3) := by decide +kernel
theorem dX4_clearColumn_60 : decode cX4_clearColumn 60 = .ok (.iload 7, 2) := by decide +kernel
theorem dX4_clearColumn_62 : decode cX4_clearColumn 62 = .ok (.aaload, 1) := by decide +kernel
theorem dX4_clearColumn_63 : decode cX4_clearColumn 63 = .ok (.iload 10, 2) := by decide +kernel
theorem dX4_clearColumn_65 : decode cX4_clearColumn 65 = .ok (.laload, 1) := by decide +kernel
theorem dX4_clearColumn_66 : decode cX4_clearColumn 66 = .ok (.lmul, 1) := by decide +kernel
theorem dX4_clearColumn_67 : decode cX4_clearColumn 67 = .ok (.lload 8, 2) := by decide +kernel
theorem dX4_clearColumn_69 : decode cX4_clearColumn 69 = .ok (.aload_n 0, 1) := by decide +kernel
theorem dX4_clearColumn_70 : decode cX4_clearColumn 70 = .ok (.getfield 13, 3) := by decide +kernel
theorem dX4_clearColumn_73 : decode cX4_clearColumn 73 = .ok (.iload_n 1, 1) := by decide +kernel
theorem dX4_clearColumn_74 : decode cX4_clearColumn 74 = .ok (.aaload, 1) := by decide +kernel
theorem dX4_clearColumn_75 : decode cX4_clearColumn 75 = .ok (.iload 10, 2) := by decide +kernel
theorem dX4_clearColumn_77 : decode cX4_clearColumn 77 = .ok (.laload, 1) := by decide +kernel
theorem dX4_clearColumn_78 : decode cX4_clearColumn 78 = .ok (.lmul, 1) := by decide +kernel
theorem dX4_clearColumn_79 : decode cX4_clearColumn 79 = .ok (.lsub, 1) := by decide +kernel
theorem dX4_clearColumn_80 : decode cX4_clearColumn 80 = .ok (.lload_n 3, 1) := by decide +kernel
theorem dX4_clearColumn_81 : decode cX4_clearColumn 81 = .ok (.invokestatic 61, 3) := by decide +kernel
theorem dX4_clearColumn_84 : decode cX4_clearColumn 84 = .ok (.lastore, 1) := by decide +kernel
theorem dX4_clearColumn_85 : decode cX4_clearColumn 85 = .ok (.iinc 10 1, 3) := by decide +kernel
theorem dX4_clearColumn_88 : decode cX4_clearColumn 88 = .ok (.goto (-55), 3) := by decide +kernel
theorem dX4_clearColumn_91 : decode cX4_clearColumn 91 = .ok (.iinc 7 1, 3) := by decide +kernel
theorem dX4_clearColumn_94 : decode cX4_clearColumn 94 = .ok (.goto (-81), 3) := by decide +kernel
theorem dX4_clearColumn_97 : decode cX4_clearColumn 97 = .ok (.return_, 1) := by decide +kernel
theorem dX4_invert_0 : decode cX4_invert 0 = .ok (.aload_n 1, 1) := by decide +kernel
theorem dX4_invert_1 : decode cX4_invert 1 = .ok (.getfield 31, 3) := by decide +kernel
theorem dX4_invert_4 : decode cX4_invert 4 = .ok (.bipush 14, 2) := by decide +kernel
theorem dX4_invert_6 : decode cX4_invert 6 = .ok (.invokestatic 37, 3) := by decide +kernel
theorem dX4_invert_9 : decode cX4_invert 9 = .ok (.istore_n 2, 1) := by decide +kernel
theorem dX4_invert_10 : decode cX4_invert 10 = .ok (.aload_n 0, 1) := by decide +kernel
theorem dX4_invert_11 : decode cX4_invert 11 = .ok (.aload_n 1, 1) := by decide +kernel
theorem dX4_invert_12 : decode cX4_invert 12 = .ok (.invokevirtual 65, 3) := by decide +kernel
theorem dX4_invert_15 : decode cX4_invert 15 = .ok (.iload_n 2, 1) := by decide +kernel
theorem dX4_invert_16 : decode cX4_invert 16 = .ok (.if_icmp .ge 5, 3) := by decide +kernel
theorem dX4_invert_19 : decode cX4_invert 19 = .ok (.iconst 0, 1) := by decide +kernel
theorem dX4_invert_20 : decode cX4_invert 20 = .ok (.ireturn, 1) := by decide +kernel
theorem dX4_invert_21 : decode cX4_invert 21 = .ok (.aload_n 0, 1) := by decide +kernel
theorem dX4_invert_22 : decode cX4_invert 22 = .ok (.getfield 13, 3) := by decide +kernel
theorem dX4_invert_25 : decode cX4_invert 25 = .ok (.iload_n 2, 1) := by decide +kernel
theorem dX4_invert_26 : decode cX4_invert 26 = .ok (.iconst 1, 1) := by decide +kernel
theorem dX4_invert_27 : decode cX4_invert 27 = .ok (.isub, 1) := by decide +kernel
theorem dX4_invert_28 : decode cX4_invert 28 = .ok (.aaload, 1) := by decide +kernel
theorem dX4_invert_29 : decode cX4_invert 29 = .ok (.iload_n 2, 1) := by decide +kernel
theorem dX4_invert_30 : decode cX4_invert 30 = .ok (.iconst 1, 1) := by decide +kernel
theorem dX4_invert_31 : decode cX4_invert 31 = .ok (.isub, 1) := by decide +kernel
theorem dX4_invert_32 : decode cX4_invert 32 = .ok (.laload, 1) := by decide +kernel
theorem dX4_invert_33 : decode cX4_invert 33 = .ok (.lstore_n 3, 1) := by decide +kernel
theorem dX4_invert_34 : decode cX4_invert 34 = .ok (.lload_n 3, 1) := by decide +kernel
theorem dX4_invert_35 : decode cX4_invert 35 = .ok (.lstore 5, 2) := by decide +kernel
theorem dX4_invert_37 : decode cX4_invert 37 = .ok (.iconst 0, 1) := by decide +kernel
theorem dX4_invert_38 : decode cX4_invert 38 = .ok (.istore 7, 2) := by decide +kernel
theorem dX4_invert_40 : decode cX4_invert 40 = .ok (.iload 7, 2) := by decide +kernel
theorem dX4_invert_42 : decode cX4_invert 42 = .ok (.iload_n 2, 1) := by decide +kernel
theorem dX4_invert_43 : decode cX4_invert 43 = .ok (.if_icmp .ge 25, 3) := by decide +kernel
theorem dX4_invert_46 : decode cX4_invert 46 = .ok (.lload 5, 2) := by decide +kernel
theorem dX4_invert_48 : decode cX4_invert 48 = .ok (.aload_n 0, 1) := by decide +kernel
theorem dX4_invert_49 : decode cX4_invert 49 = .ok (.getfield 13, 3) := by decide +kernel
theorem dX4_invert_52 : decode cX4_invert 52 = .ok (.iload 7, 2) := by decide +kernel
theorem dX4_invert_54 : decode cX4_invert 54 = .ok (.aaload, 1) := by decide +kernel
theorem dX4_invert_55 : decode cX4_invert 55 = .ok (.iload_n 2, 1) := by decide +kernel
theorem dX4_invert_56 : decode cX4_invert 56 = .ok (.laload, 1) := by decide +kernel
theorem dX4_invert_57 : decode cX4_invert 57 = .ok (.invokestatic 69, 3) := by decide +kernel
theorem dX4_invert_60 : decode cX4_invert 60 = .ok (.lstore 5, 2) := by decide +kernel
theorem dX4_invert_62 : decode cX4_invert 62 = .ok (.iinc 7 1, 3) := by decide +kernel
theorem dX4_invert_65 : decode cX4_invert 65 = .ok (.goto (-25), 3) := by decide +kernel
theorem dX4_invert_68 : decode cX4_invert 68 = .ok (.lload_n 3, 1) := by decide +kernel
theorem dX4_invert_69 : decode cX4_invert 69 = .ok (.lconst 0, 1) := by decide +kernel
theorem dX4_invert_70 : decode cX4_invert 70 = .ok (.lcmp, 1) := by decide +kernel
theorem dX4_invert_71 : decode cX4_invert 71 = .ok (.ifCond .ge 9, 3) := by decide +kernel
theorem dX4_invert_74 : decode cX4_invert 74 = .ok (.lload 5, 2) := by decide +kernel
theorem dX4_invert_76 : decode cX4_invert 76 = .ok (.lneg, 1) := by decide +kernel
theorem dX4_invert_77 : decode cX4_invert 77 = .ok (.goto 5, 3) := by decide +kernel
theorem dX4_invert_80 : decode cX4_invert 80 = .ok (.lload 5, 2) := by decide +kernel
theorem dX4_invert_82 : decode cX4_invert 82 = .ok (.lstore 7, 2) := by decide +kernel
theorem dX4_invert_84 : decode cX4_invert 84 = .ok (.aload_n 0, 1) := by decide +kernel
theorem dX4_invert_85 : decode cX4_invert 85 = .ok (.lload_n 3, 1) := by decide +kernel
theorem dX4_invert_86 : decode cX4_invert 86 = .ok (.lload 7, 2) := by decide +kernel
theorem dX4_invert_88 : decode cX4_invert 88 = .ok (.invokestatic 61, 3) := by decide +kernel
theorem dX4_invert_91 : decode cX4_invert 91 = .ok (.putfield 23, 3) := by decide +kernel
theorem dX4_invert_94 : decode cX4_invert 94 = .ok (.iconst 0, 1) := by decide +kernel
theorem dX4_invert_95 : decode cX4_invert 95 = .ok (.istore 9, 2) := by decide +kernel
theorem dX4_invert_97 : decode cX4_invert 97 = .ok (.iload 9, 2) := by decide +kernel
theorem dX4_invert_99 : decode cX4_invert 99 = .ok (.iload_n 2, 1) := by decide +kernel
theorem dX4_invert_100 : decode cX4_invert 100 = .ok (.if_icmp .ge 35, 3) := by decide +kernel
theorem dX4_invert_103 : decode cX4_invert 103 = .ok (.aload_n 0, 1) := by decide +kernel
theorem dX4_invert_104 : decode cX4_invert 104 = .ok (.getfield 16, 3) := by decide +kernel
theorem dX4_invert_107 : decode cX4_invert 107 = .ok (.iload 9, 2) := by decide +kernel
theorem dX4_invert_109 : decode cX4_invert 109 = .ok (.aload_n 0, 1) := by decide +kernel
theorem dX4_invert_110 : decode cX4_invert 110 = .ok (.getfield 13, 3) := by decide +kernel
theorem dX4_invert_113 : decode cX4_invert 113 = .ok (.aload_n 1, 1) := by decide +kernel
theorem dX4_invert_114 : decode cX4_invert 114 = .ok (.iload 9, 2) := by decide +kernel
theorem dX4_invert_116 : decode cX4_invert 116 = .ok (.ineg, 1) := by decide +kernel
theorem dX4_invert_117 : decode cX4_invert 117 = .ok (.invokevirtual 72, 3) := by decide +kernel
theorem dX4_invert_120 : decode cX4_invert 120 = .ok (.aaload, 1) := by decide +kernel
theorem dX4_invert_121 : decode cX4_invert 121 = .ok (.iload_n 2, 1) := by decide +kernel
theorem dX4_invert_122 : decode cX4_invert 122 = .ok (.laload, 1) := by decide +kernel
theorem dX4_invert_123 : decode cX4_invert 123 = .ok (.lload 7, 2) := by decide +kernel
theorem dX4_invert_125 : decode cX4_invert 125 = .ok (.invokestatic 61, 3) := by decide +kernel
theorem dX4_invert_128 : decode cX4_invert 128 = .ok (.lastore, 1) := by decide +kernel
theorem dX4_invert_129 : decode cX4_invert 129 = .ok (.iinc 9 1, 3) := by decide +kernel
theorem dX4_invert_132 : decode cX4_invert 132 = .ok (.goto (-35), 3) := by decide +kernel
theorem dX4_invert_135 : decode cX4_invert 135 = .ok (.iconst 1, 1) := by decide +kernel
theorem dX4_invert_136 : decode cX4_invert 136 = .ok (.ireturn, 1) := by decide +kernel
theorem dX4_backAt_0 : decode cX4_backAt 0 = .ok (.iload_n 1, 1) := by decide +kernel
theorem dX4_backAt_1 : decode cX4_backAt 1 = .ok (.ifCond .lt 18, 3) := by decide +kernel
theorem dX4_backAt_4 : decode cX4_backAt 4 = .ok (.iload_n 1, 1) := by decide +kernel
theorem dX4_backAt_5 : decode cX4_backAt 5 = .ok (.bipush 14, 2) := by decide +kernel
theorem dX4_backAt_7 : decode cX4_backAt 7 = .ok (.if_icmp .ge 12, 3) := by decide +kernel
theorem dX4_backAt_10 : decode cX4_backAt 10 = .ok (.aload_n 0, 1) := by decide +kernel
theorem dX4_backAt_11 : decode cX4_backAt 11 = .ok (.getfield 16, 3) := by decide +kernel
theorem dX4_backAt_14 : decode cX4_backAt 14 = .ok (.iload_n 1, 1) := by decide +kernel
theorem dX4_backAt_15 : decode cX4_backAt 15 = .ok (.laload, 1) := by decide +kernel
theorem dX4_backAt_16 : decode cX4_backAt 16 = .ok (.goto 4, 3) := by decide +kernel
theorem dX4_backAt_19 : decode cX4_backAt 19 = .ok (.lconst 0, 1) := by decide +kernel
theorem dX4_backAt_20 : decode cX4_backAt 20 = .ok (.lreturn, 1) := by decide +kernel
theorem dX4_noisePart_0 : decode cX4_noisePart 0 = .ok (.lconst 0, 1) := by decide +kernel
theorem dX4_noisePart_1 : decode cX4_noisePart 1 = .ok (.lstore_n 3, 1) := by decide +kernel
theorem dX4_noisePart_2 : decode cX4_noisePart 2 = .ok (.iconst 0, 1) := by decide +kernel
theorem dX4_noisePart_3 : decode cX4_noisePart 3 = .ok (.istore 5, 2) := by decide +kernel
theorem dX4_noisePart_5 : decode cX4_noisePart 5 = .ok (.iload 5, 2) := by decide +kernel
theorem dX4_noisePart_7 : decode cX4_noisePart 7 = .ok (.iload_n 2, 1) := by decide +kernel
theorem dX4_noisePart_8 : decode cX4_noisePart 8 = .ok (.if_icmp .ge 34, 3) := by decide +kernel
theorem dX4_noisePart_11 : decode cX4_noisePart 11 = .ok (.iload 5, 2) := by decide +kernel
theorem dX4_noisePart_13 : decode cX4_noisePart 13 = .ok (.bipush 14, 2) := by decide +kernel
theorem dX4_noisePart_15 : decode cX4_noisePart 15 = .ok (.if_icmp .ge 27, 3) := by decide +kernel
theorem dX4_noisePart_18 : decode cX4_noisePart 18 = .ok (.lload_n 3, 1) := by decide +kernel
theorem dX4_noisePart_19 : decode cX4_noisePart 19 = .ok (.aload_n 0, 1) := by decide +kernel
theorem dX4_noisePart_20 : decode cX4_noisePart 20 = .ok (.getfield 16, 3) := by decide +kernel
theorem dX4_noisePart_23 : decode cX4_noisePart 23 = .ok (.iload 5, 2) := by decide +kernel
theorem dX4_noisePart_25 : decode cX4_noisePart 25 = .ok (.laload, 1) := by decide +kernel
theorem dX4_noisePart_26 : decode cX4_noisePart 26 = .ok (.aload_n 0, 1) := by decide +kernel
theorem dX4_noisePart_27 : decode cX4_noisePart 27 = .ok (.getfield 16, 3) := by decide +kernel
theorem dX4_noisePart_30 : decode cX4_noisePart 30 = .ok (.iload 5, 2) := by decide +kernel
theorem dX4_noisePart_32 : decode cX4_noisePart 32 = .ok (.laload, 1) := by decide +kernel
theorem dX4_noisePart_33 : decode cX4_noisePart 33 = .ok (.lmul, 1) := by decide +kernel
theorem dX4_noisePart_34 : decode cX4_noisePart 34 = .ok (.ladd, 1) := by decide +kernel
theorem dX4_noisePart_35 : decode cX4_noisePart 35 = .ok (.lstore_n 3, 1) := by decide +kernel
theorem dX4_noisePart_36 : decode cX4_noisePart 36 = .ok (.iinc 5 1, 3) := by decide +kernel
theorem dX4_noisePart_39 : decode cX4_noisePart 39 = .ok (.goto (-34), 3) := by decide +kernel
theorem dX4_noisePart_42 : decode cX4_noisePart 42 = .ok (.aload_n 0, 1) := by decide +kernel
theorem dX4_noisePart_43 : decode cX4_noisePart 43 = .ok (.getfield 23, 3) := by decide +kernel
theorem dX4_noisePart_46 : decode cX4_noisePart 46 = .ok (.aload_n 0, 1) := by decide +kernel
theorem dX4_noisePart_47 : decode cX4_noisePart 47 = .ok (.getfield 23, 3) := by decide +kernel
theorem dX4_noisePart_50 : decode cX4_noisePart 50 = .ok (.lmul, 1) := by decide +kernel
theorem dX4_noisePart_51 : decode cX4_noisePart 51 = .ok (.lstore 5, 2) := by decide +kernel
theorem dX4_noisePart_53 : decode cX4_noisePart 53 = .ok (.iload_n 1, 1) := by decide +kernel
theorem dX4_noisePart_54 : decode cX4_noisePart 54 = .ok (.ifCond .eq 7, 3) := by decide +kernel
theorem dX4_noisePart_57 : decode cX4_noisePart 57 = .ok (.lload_n 3, 1) := by decide +kernel
theorem dX4_noisePart_58 : decode cX4_noisePart 58 = .ok (.goto 5, 3) := by decide +kernel
theorem dX4_noisePart_61 : decode cX4_noisePart 61 = .ok (.lload 5, 2) := by decide +kernel
theorem dX4_noisePart_63 : decode cX4_noisePart 63 = .ok (.lload_n 3, 1) := by decide +kernel
theorem dX4_noisePart_64 : decode cX4_noisePart 64 = .ok (.lload 5, 2) := by decide +kernel
theorem dX4_noisePart_66 : decode cX4_noisePart 66 = .ok (.invokestatic 69, 3) := by decide +kernel
theorem dX4_noisePart_69 : decode cX4_noisePart 69 = .ok (.invokestatic 61, 3) := by decide +kernel
theorem dX4_noisePart_72 : decode cX4_noisePart 72 = .ok (.lreturn, 1) := by decide +kernel
theorem dX4_showLost_0 : decode cX4_showLost 0 = .ok (.iload_n 2, 1) := by decide +kernel
theorem dX4_showLost_1 : decode cX4_showLost 1 = .ok (.ifCond .ne 7, 3) := by decide +kernel
theorem dX4_showLost_4 : decode cX4_showLost 4 = .ok (.lconst 1, 1) := by decide +kernel
theorem dX4_showLost_5 : decode cX4_showLost 5 = .ok (.goto 15, 3) := by decide +kernel
theorem dX4_showLost_8 : decode cX4_showLost 8 = .ok (.aload_n 0, 1) := by decide +kernel
theorem dX4_showLost_9 : decode cX4_showLost 9 = .ok (.getfield 13, 3) := by decide +kernel
theorem dX4_showLost_12 : decode cX4_showLost 12 = .ok (.iload_n 2, 1) := by decide +kernel
theorem dX4_showLost_13 : decode cX4_showLost 13 = .ok (.iconst 1, 1) := by decide +kernel
theorem dX4_showLost_14 : decode cX4_showLost 14 = .ok (.isub, 1) := by decide +kernel
theorem dX4_showLost_15 : decode cX4_showLost 15 = .ok (.aaload, 1) := by decide +kernel
theorem dX4_showLost_16 : decode cX4_showLost 16 = .ok (.iload_n 2, 1) := by decide +kernel
theorem dX4_showLost_17 : decode cX4_showLost 17 = .ok (.iconst 1, 1) := by decide +kernel
theorem dX4_showLost_18 : decode cX4_showLost 18 = .ok (.isub, 1) := by decide +kernel
theorem dX4_showLost_19 : decode cX4_showLost 19 = .ok (.laload, 1) := by decide +kernel
theorem dX4_showLost_20 : decode cX4_showLost 20 = .ok (.lstore_n 3, 1) := by decide +kernel
theorem dX4_showLost_21 : decode cX4_showLost 21 = .ok (.lload_n 3, 1) := by decide +kernel
theorem dX4_showLost_22 : decode cX4_showLost 22 = .ok (.lstore 5, 2) := by decide +kernel
theorem dX4_showLost_24 : decode cX4_showLost 24 = .ok (.iconst 0, 1) := by decide +kernel
theorem dX4_showLost_25 : decode cX4_showLost 25 = .ok (.istore 7, 2) := by decide +kernel
theorem dX4_showLost_27 : decode cX4_showLost 27 = .ok (.iload 7, 2) := by decide +kernel
theorem dX4_showLost_29 : decode cX4_showLost 29 = .ok (.iload_n 2, 1) := by decide +kernel
theorem dX4_showLost_30 : decode cX4_showLost 30 = .ok (.if_icmp .ge 25, 3) := by decide +kernel
theorem dX4_showLost_33 : decode cX4_showLost 33 = .ok (.lload 5, 2) := by decide +kernel
theorem dX4_showLost_35 : decode cX4_showLost 35 = .ok (.aload_n 0, 1) := by decide +kernel
theorem dX4_showLost_36 : decode cX4_showLost 36 = .ok (.getfield 13, 3) := by decide +kernel
theorem dX4_showLost_39 : decode cX4_showLost 39 = .ok (.iload 7, 2) := by decide +kernel
theorem dX4_showLost_41 : decode cX4_showLost 41 = .ok (.aaload, 1) := by decide +kernel
theorem dX4_showLost_42 : decode cX4_showLost 42 = .ok (.iload_n 2, 1) := by decide +kernel
theorem dX4_showLost_43 : decode cX4_showLost 43 = .ok (.laload, 1) := by decide +kernel
theorem dX4_showLost_44 : decode cX4_showLost 44 = .ok (.invokestatic 69, 3) := by decide +kernel
theorem dX4_showLost_47 : decode cX4_showLost 47 = .ok (.lstore 5, 2) := by decide +kernel
theorem dX4_showLost_49 : decode cX4_showLost 49 = .ok (.iinc 7 1, 3) := by decide +kernel
theorem dX4_showLost_52 : decode cX4_showLost 52 = .ok (.goto (-25), 3) := by decide +kernel
theorem dX4_showLost_55 : decode cX4_showLost 55 = .ok (.lload_n 3, 1) := by decide +kernel
theorem dX4_showLost_56 : decode cX4_showLost 56 = .ok (.lconst 0, 1) := by decide +kernel
theorem dX4_showLost_57 : decode cX4_showLost 57 = .ok (.lcmp, 1) := by decide +kernel
theorem dX4_showLost_58 : decode cX4_showLost 58 = .ok (.ifCond .ge 9, 3) := by decide +kernel
theorem dX4_showLost_61 : decode cX4_showLost 61 = .ok (.lload 5, 2) := by decide +kernel
theorem dX4_showLost_63 : decode cX4_showLost 63 = .ok (.lneg, 1) := by decide +kernel
theorem dX4_showLost_64 : decode cX4_showLost 64 = .ok (.goto 5, 3) := by decide +kernel
theorem dX4_showLost_67 : decode cX4_showLost 67 = .ok (.lload 5, 2) := by decide +kernel
theorem dX4_showLost_69 : decode cX4_showLost 69 = .ok (.lstore 7, 2) := by decide +kernel
theorem dX4_showLost_71 : decode cX4_showLost 71 = .ok (.iconst 0, 1) := by decide +kernel
theorem dX4_showLost_72 : decode cX4_showLost 72 = .ok (.istore 9, 2) := by decide +kernel
theorem dX4_showLost_74 : decode cX4_showLost 74 = .ok (.iload 9, 2) := by decide +kernel
theorem dX4_showLost_76 : decode cX4_showLost 76 = .ok (.aload_n 1, 1) := by decide +kernel
theorem dX4_showLost_77 : decode cX4_showLost 77 = .ok (.getfield 31, 3) := by decide +kernel
theorem dX4_showLost_80 : decode cX4_showLost 80 = .ok (.if_icmp .ge 56, 3) := by decide +kernel
theorem dX4_showLost_83 : decode cX4_showLost 83 = .ok (.iload 9, 2) := by decide +kernel
theorem dX4_showLost_85 : decode cX4_showLost 85 = .ok (.iload_n 2, 1) := by decide +kernel
theorem dX4_showLost_86 : decode cX4_showLost 86 = .ok (.if_icmp .ge 16, 3) := by decide +kernel
theorem dX4_showLost_89 : decode cX4_showLost 89 = .ok (.aload_n 0, 1) := by decide +kernel
theorem dX4_showLost_90 : decode cX4_showLost 90 = .ok (.getfield 13, 3) := by decide +kernel
theorem dX4_showLost_93 : decode cX4_showLost 93 = .ok (.iload 9, 2) := by decide +kernel
theorem dX4_showLost_95 : decode cX4_showLost 95 = .ok (.aaload, 1) := by decide +kernel
theorem dX4_showLost_96 : decode cX4_showLost 96 = .ok (.iload_n 2, 1) := by decide +kernel
theorem dX4_showLost_97 : decode cX4_showLost 97 = .ok (.laload, 1) := by decide +kernel
theorem dX4_showLost_98 : decode cX4_showLost 98 = .ok (.lneg, 1) := by decide +kernel
theorem dX4_showLost_99 : decode cX4_showLost 99 = .ok (.goto 14, 3) := by decide +kernel
theorem dX4_showLost_102 : decode cX4_showLost 102 = .ok (.iload 9, 2) := by decide +kernel
theorem dX4_showLost_104 : decode cX4_showLost 104 = .ok (.iload_n 2, 1) := by decide +kernel
theorem dX4_showLost_105 : decode cX4_showLost 105 = .ok (.if_icmp .ne 7, 3) := by decide +kernel
theorem dX4_showLost_108 : decode cX4_showLost 108 = .ok (.lload_n 3, 1) := by decide +kernel
theorem dX4_showLost_109 : decode cX4_showLost 109 = .ok (.goto 4, 3) := by decide +kernel
theorem dX4_showLost_112 : decode cX4_showLost 112 = .ok (.lconst 0, 1) := by decide +kernel
theorem dX4_showLost_113 : decode cX4_showLost 113 = .ok (.lstore 10, 2) := by decide +kernel
theorem dX4_showLost_115 : decode cX4_showLost 115 = .ok (.aload_n 1, 1) := by decide +kernel
theorem dX4_showLost_116 : decode cX4_showLost 116 = .ok (.iconst 1, 1) := by decide +kernel
theorem dX4_showLost_117 : decode cX4_showLost 117 = .ok (.iload 9, 2) := by decide +kernel
theorem dX4_showLost_119 : decode cX4_showLost 119 = .ok (.lload 10, 2) := by decide +kernel
theorem dX4_showLost_121 : decode cX4_showLost 121 = .ok (.lload 7, 2) := by decide +kernel
theorem dX4_showLost_123 : decode cX4_showLost 123 = .ok (.invokestatic 61, 3) := by decide +kernel
theorem dX4_showLost_126 : decode cX4_showLost 126 = .ok (.l2i, 1) := by decide +kernel
theorem dX4_showLost_127 : decode cX4_showLost 127 = .ok (.invokevirtual 76, 3) := by decide +kernel
theorem dX4_showLost_130 : decode cX4_showLost 130 = .ok (.iinc 9 1, 3) := by decide +kernel
theorem dX4_showLost_133 : decode cX4_showLost 133 = .ok (.goto (-59), 3) := by decide +kernel
theorem dX4_showLost_136 : decode cX4_showLost 136 = .ok (.return_, 1) := by decide +kernel
theorem dX4_showSolved_0 : decode cX4_showSolved 0 = .ok (.aload_n 1, 1) := by decide +kernel
theorem dX4_showSolved_1 : decode cX4_showSolved 1 = .ok (.getfield 31, 3) := by decide +kernel
theorem dX4_showSolved_4 : decode cX4_showSolved 4 = .ok (.bipush 14, 2) := by decide +kernel
theorem dX4_showSolved_6 : decode cX4_showSolved 6 = .ok (.invokestatic 37, 3) := by decide +kernel
theorem dX4_showSolved_9 : decode cX4_showSolved 9 = .ok (.istore_n 2, 1) := by decide +kernel
theorem dX4_showSolved_10 : decode cX4_showSolved 10 = .ok (.iconst 0, 1) := by decide +kernel
theorem dX4_showSolved_11 : decode cX4_showSolved 11 = .ok (.istore_n 3, 1) := by decide +kernel
theorem dX4_showSolved_12 : decode cX4_showSolved 12 = .ok (.iload_n 3, 1) := by decide +kernel
theorem dX4_showSolved_13 : decode cX4_showSolved 13 = .ok (.iload_n 2, 1) := by decide +kernel
theorem dX4_showSolved_14 : decode cX4_showSolved 14 = .ok (.if_icmp .ge 126, 3) := by decide +kernel
theorem dX4_showSolved_17 : decode cX4_showSolved 17 = .ok (.lconst 0, 1) := by decide +kernel
theorem dX4_showSolved_18 : decode cX4_showSolved 18 = .ok (.lstore 4, 2) := by decide +kernel
theorem dX4_showSolved_20 : decode cX4_showSolved 20 = .ok (.iconst 0, 1) := by decide +kernel
theorem dX4_showSolved_21 : decode cX4_showSolved 21 = .ok (.istore 6, 2) := by decide +kernel
theorem dX4_showSolved_23 : decode cX4_showSolved 23 = .ok (.iload 6, 2) := by decide +kernel
theorem dX4_showSolved_25 : decode cX4_showSolved 25 = .ok (.iload_n 2, 1) := by decide +kernel
theorem dX4_showSolved_26 : decode cX4_showSolved 26 = .ok (.if_icmp .ge 36, 3) := by decide +kernel
theorem dX4_showSolved_29 : decode cX4_showSolved 29 = .ok (.lload 4, 2) := by decide +kernel
theorem dX4_showSolved_31 : decode cX4_showSolved 31 = .ok (.aload_n 0, 1) := by decide +kernel
theorem dX4_showSolved_32 : decode cX4_showSolved 32 = .ok (.getfield 16, 3) := by decide +kernel
theorem dX4_showSolved_35 : decode cX4_showSolved 35 = .ok (.iload 6, 2) := by decide +kernel
theorem dX4_showSolved_37 : decode cX4_showSolved 37 = .ok (.laload, 1) := by decide +kernel
theorem dX4_showSolved_38 : decode cX4_showSolved 38 = .ok (.aload_n 1, 1) := by decide +kernel
theorem dX4_showSolved_39 : decode cX4_showSolved 39 = .ok (.iconst 2, 1) := by decide +kernel
theorem dX4_showSolved_40 : decode cX4_showSolved 40 = .ok (.aload_n 1, 1) := by decide +kernel
theorem dX4_showSolved_41 : decode cX4_showSolved 41 = .ok (.iload_n 3, 1) := by decide +kernel
theorem dX4_showSolved_42 : decode cX4_showSolved 42 = .ok (.iload 6, 2) := by decide +kernel
theorem dX4_showSolved_44 : decode cX4_showSolved 44 = .ok (.iadd, 1) := by decide +kernel
theorem dX4_showSolved_45 : decode cX4_showSolved 45 = .ok (.invokevirtual 72, 3) := by decide +kernel
theorem dX4_showSolved_48 : decode cX4_showSolved 48 = .ok (.invokevirtual 79, 3) := by decide +kernel
theorem dX4_showSolved_51 : decode cX4_showSolved 51 = .ok (.i2l, 1) := by decide +kernel
theorem dX4_showSolved_52 : decode cX4_showSolved 52 = .ok (.lmul, 1) := by decide +kernel
theorem dX4_showSolved_53 : decode cX4_showSolved 53 = .ok (.ladd, 1) := by decide +kernel
theorem dX4_showSolved_54 : decode cX4_showSolved 54 = .ok (.lstore 4, 2) := by decide +kernel
theorem dX4_showSolved_56 : decode cX4_showSolved 56 = .ok (.iinc 6 1, 3) := by decide +kernel
theorem dX4_showSolved_59 : decode cX4_showSolved 59 = .ok (.goto (-36), 3) := by decide +kernel
theorem dX4_showSolved_62 : decode cX4_showSolved 62 = .ok (.aload_n 0, 1) := by decide +kernel
theorem dX4_showSolved_63 : decode cX4_showSolved 63 = .ok (.getfield 20, 3) := by decide +kernel
theorem dX4_showSolved_66 : decode cX4_showSolved 66 = .ok (.iload_n 3, 1) := by decide +kernel
theorem dX4_showSolved_67 : decode cX4_showSolved 67 = .ok (.lload 4, 2) := by decide +kernel
theorem dX4_showSolved_69 : decode cX4_showSolved 69 = .ok (.aload_n 0, 1) := by decide +kernel
theorem dX4_showSolved_70 : decode cX4_showSolved 70 = .ok (.getfield 23, 3) := by decide +kernel
theorem dX4_showSolved_73 : decode cX4_showSolved 73 = .ok (.invokestatic 61, 3) := by decide +kernel
theorem dX4_showSolved_76 : decode cX4_showSolved 76 = .ok (.lastore, 1) := by decide +kernel
theorem dX4_showSolved_77 : decode cX4_showSolved 77 = .ok (.aload_n 0, 1) := by decide +kernel
theorem dX4_showSolved_78 : decode cX4_showSolved 78 = .ok (.getfield 20, 3) := by decide +kernel
theorem dX4_showSolved_81 : decode cX4_showSolved 81 = .ok (.iload_n 3, 1) := by decide +kernel
theorem dX4_showSolved_82 : decode cX4_showSolved 82 = .ok (.laload, 1) := by decide +kernel
theorem dX4_showSolved_83 : decode cX4_showSolved 83 = .ok (.ldc2_w 82, 3) := by decide +kernel
theorem dX4_showSolved_86 : decode cX4_showSolved 86 = .ok (.lcmp, 1) := by decide +kernel
theorem dX4_showSolved_87 : decode cX4_showSolved 87 = .ok (.ifCond .lt 20, 3) := by decide +kernel
theorem dX4_showSolved_90 : decode cX4_showSolved 90 = .ok (.aload_n 0, 1) := by decide +kernel
theorem dX4_showSolved_91 : decode cX4_showSolved 91 = .ok (.getfield 20, 3) := by decide +kernel
theorem dX4_showSolved_94 : decode cX4_showSolved 94 = .ok (.iload_n 3, 1) := by decide +kernel
theorem dX4_showSolved_95 : decode cX4_showSolved 95 = .ok (.laload, 1) := by decide +kernel
theorem dX4_showSolved_96 : decode cX4_showSolved 96 = .ok (.ldc2_w 84, 3) := by decide +kernel
theorem dX4_showSolved_99 : decode cX4_showSolved 99 = .ok (.lcmp, 1) := by decide +kernel
theorem dX4_showSolved_100 : decode cX4_showSolved 100 = .ok (.ifCond .gt 7, 3) := by decide +kernel
theorem dX4_showSolved_103 : decode cX4_showSolved 103 = .ok (.iconst 1, 1) := by decide +kernel
theorem dX4_showSolved_104 : decode cX4_showSolved 104 = .ok (.goto 4, 3) := by decide +kernel
theorem dX4_showSolved_107 : decode cX4_showSolved 107 = .ok (.iconst 0, 1) := by decide +kernel
theorem dX4_showSolved_108 : decode cX4_showSolved 108 = .ok (.istore 6, 2) := by decide +kernel
theorem dX4_showSolved_110 : decode cX4_showSolved 110 = .ok (.iload 6, 2) := by decide +kernel
theorem dX4_showSolved_112 : decode cX4_showSolved 112 = .ok (.ifCond .eq 20, 3) := by decide +kernel
theorem dX4_showSolved_115 : decode cX4_showSolved 115 = .ok (.aload_n 0, 1) := by decide +kernel
theorem dX4_showSolved_116 : decode cX4_showSolved 116 = .ok (.getfield 20, 3) := by decide +kernel
theorem dX4_showSolved_119 : decode cX4_showSolved 119 = .ok (.iload_n 3, 1) := by decide +kernel
theorem dX4_showSolved_120 : decode cX4_showSolved 120 = .ok (.laload, 1) := by decide +kernel
theorem dX4_showSolved_121 : decode cX4_showSolved 121 = .ok (.aload_n 0, 1) := by decide +kernel
theorem dX4_showSolved_122 : decode cX4_showSolved 122 = .ok (.getfield 23, 3) := by decide +kernel
theorem dX4_showSolved_125 : decode cX4_showSolved 125 = .ok (.lmul, 1) := by decide +kernel
theorem dX4_showSolved_126 : decode cX4_showSolved 126 = .ok (.lload 4, 2) := by decide +kernel
theorem dX4_showSolved_128 : decode cX4_showSolved 128 = .ok (.lcmp, 1) := by decide +kernel
theorem dX4_showSolved_129 : decode cX4_showSolved 129 = .ok (.ifCond .eq 5, 3) := by decide +kernel
theorem dX4_showSolved_132 : decode cX4_showSolved 132 = .ok (.iconst 0, 1) := by decide +kernel
theorem dX4_showSolved_133 : decode cX4_showSolved 133 = .ok (.ireturn, 1) := by decide +kernel
theorem dX4_showSolved_134 : decode cX4_showSolved 134 = .ok (.iinc 3 1, 3) := by decide +kernel
theorem dX4_showSolved_137 : decode cX4_showSolved 137 = .ok (.goto (-125), 3) := by decide +kernel
theorem dX4_showSolved_140 : decode cX4_showSolved 140 = .ok (.iconst 0, 1) := by decide +kernel
theorem dX4_showSolved_141 : decode cX4_showSolved 141 = .ok (.istore_n 3, 1) := by decide +kernel
theorem dX4_showSolved_142 : decode cX4_showSolved 142 = .ok (.iload_n 3, 1) := by decide +kernel
theorem dX4_showSolved_143 : decode cX4_showSolved 143 = .ok (.iload_n 2, 1) := by decide +kernel
theorem dX4_showSolved_144 : decode cX4_showSolved 144 = .ok (.if_icmp .ge 22, 3) := by decide +kernel
theorem dX4_showSolved_147 : decode cX4_showSolved 147 = .ok (.aload_n 1, 1) := by decide +kernel
theorem dX4_showSolved_148 : decode cX4_showSolved 148 = .ok (.iconst 1, 1) := by decide +kernel
theorem dX4_showSolved_149 : decode cX4_showSolved 149 = .ok (.iload_n 3, 1) := by decide +kernel
theorem dX4_showSolved_150 : decode cX4_showSolved 150 = .ok (.aload_n 0, 1) := by decide +kernel
theorem dX4_showSolved_151 : decode cX4_showSolved 151 = .ok (.getfield 20, 3) := by decide +kernel
theorem dX4_showSolved_154 : decode cX4_showSolved 154 = .ok (.iload_n 3, 1) := by decide +kernel
theorem dX4_showSolved_155 : decode cX4_showSolved 155 = .ok (.laload, 1) := by decide +kernel
theorem dX4_showSolved_156 : decode cX4_showSolved 156 = .ok (.l2i, 1) := by decide +kernel
theorem dX4_showSolved_157 : decode cX4_showSolved 157 = .ok (.invokevirtual 76, 3) := by decide +kernel
theorem dX4_showSolved_160 : decode cX4_showSolved 160 = .ok (.iinc 3 1, 3) := by decide +kernel
theorem dX4_showSolved_163 : decode cX4_showSolved 163 = .ok (.goto (-21), 3) := by decide +kernel
theorem dX4_showSolved_166 : decode cX4_showSolved 166 = .ok (.iconst 1, 1) := by decide +kernel
theorem dX4_showSolved_167 : decode cX4_showSolved 167 = .ok (.ireturn, 1) := by decide +kernel
end
section
theorem dX5_init_0 : decode cX5_init 0 = .ok (.aload_n 0, 1) := by decide +kernel
theorem dX5_init_1 : decode cX5_init 1 = .ok (.invokespecial 1, 3) := by decide +kernel
theorem dX5_init_4 : decode cX5_init 4 = .ok (.aload_n 0, 1) := by decide +kernel
theorem dX5_init_5 : decode cX5_init 5 = .ok (.new 7, 3) := by decide +kernel
theorem dX5_init_8 : decode cX5_init 8 = .ok (.dup, 1) := by decide +kernel
theorem dX5_init_9 : decode cX5_init 9 = .ok (.invokespecial 9, 3) := by decide +kernel
theorem dX5_init_12 : decode cX5_init 12 = .ok (.putfield 10, 3) := by decide +kernel
theorem dX5_init_15 : decode cX5_init 15 = .ok (.aload_n 0, 1) := by decide +kernel
theorem dX5_init_16 : decode cX5_init 16 = .ok (.new 16, 3) := by decide +kernel
theorem dX5_init_19 : decode cX5_init 19 = .ok (.dup, 1) := by decide +kernel
theorem dX5_init_20 : decode cX5_init 20 = .ok (.invokespecial 18, 3) := by decide +kernel
theorem dX5_init_23 : decode cX5_init 23 = .ok (.putfield 19, 3) := by decide +kernel
theorem dX5_init_26 : decode cX5_init 26 = .ok (.aload_n 0, 1) := by decide +kernel
theorem dX5_init_27 : decode cX5_init 27 = .ok (.new 23, 3) := by decide +kernel
theorem dX5_init_30 : decode cX5_init 30 = .ok (.dup, 1) := by decide +kernel
theorem dX5_init_31 : decode cX5_init 31 = .ok (.invokespecial 25, 3) := by decide +kernel
theorem dX5_init_34 : decode cX5_init 34 = .ok (.putfield 26, 3) := by decide +kernel
theorem dX5_init_37 : decode cX5_init 37 = .ok (.aload_n 0, 1) := by decide +kernel
theorem dX5_init_38 : decode cX5_init 38 = .ok (.new 30, 3) := by decide +kernel
theorem dX5_init_41 : decode cX5_init 41 = .ok (.dup, 1) := by decide +kernel
theorem dX5_init_42 : decode cX5_init 42 = .ok (.invokespecial 32, 3) := by decide +kernel
theorem dX5_init_45 : decode cX5_init 45 = .ok (.putfield 33, 3) := by decide +kernel
theorem dX5_init_48 : decode cX5_init 48 = .ok (.aload_n 0, 1) := by decide +kernel
theorem dX5_init_49 : decode cX5_init 49 = .ok (.new 37, 3) := by decide +kernel
theorem dX5_init_52 : decode cX5_init 52 = .ok (.dup, 1) := by decide +kernel
theorem dX5_init_53 : decode cX5_init 53 = .ok (.invokespecial 39, 3) := by decide +kernel
theorem dX5_init_56 : decode cX5_init 56 = .ok (.putfield 40, 3) := by decide +kernel
theorem dX5_init_59 : decode cX5_init 59 = .ok (.aload_n 0, 1) := by decide +kernel
theorem dX5_init_60 : decode cX5_init 60 = .ok (.iconst 0, 1) := by decide +kernel
theorem dX5_init_61 : decode cX5_init 61 = .ok (.putfield 44, 3) := by decide +kernel
theorem dX5_init_64 : decode cX5_init 64 = .ok (.return_, 1) := by decide +kernel
theorem dX5_ring_0 : decode cX5_ring 0 = .ok (.aload_n 0, 1) := by decide +kernel
theorem dX5_ring_1 : decode cX5_ring 1 = .ok (.iload_n 1, 1) := by decide +kernel
theorem dX5_ring_2 : decode cX5_ring 2 = .ok (.iconst 1, 1) := by decide +kernel
theorem dX5_ring_3 : decode cX5_ring 3 = .ok (.if_icmp .lt 9, 3) := by decide +kernel
theorem dX5_ring_6 : decode cX5_ring 6 = .ok (.iload_n 1, 1) := by decide +kernel
theorem dX5_ring_7 : decode cX5_ring 7 = .ok (.bipush 60, 2) := by decide +kernel
theorem dX5_ring_9 : decode cX5_ring 9 = .ok (.if_icmp .le 7, 3) := by decide +kernel
theorem dX5_ring_12 : decode cX5_ring 12 = .ok (.iconst 1, 1) := by decide +kernel
theorem dX5_ring_13 : decode cX5_ring 13 = .ok (.goto 4, 3) := by decide +kernel
theorem dX5_ring_16 : decode cX5_ring 16 = .ok (.iconst 0, 1) := by decide +kernel
theorem dX5_ring_17 : decode cX5_ring 17 = .ok (.invokevirtual 48, 3) := by decide +kernel
theorem dX5_ring_20 : decode cX5_ring 20 = .ok (.ifCond .eq 5, 3) := by decide +kernel
theorem dX5_ring_23 : decode cX5_ring 23 = .ok (.iconst 0, 1) := by decide +kernel
theorem dX5_ring_24 : decode cX5_ring 24 = .ok (.ireturn, 1) := by decide +kernel
theorem dX5_ring_25 : decode cX5_ring 25 = .ok (.aload_n 0, 1) := by decide +kernel
theorem dX5_ring_26 : decode cX5_ring 26 = .ok (.iload_n 1, 1) := by decide +kernel
theorem dX5_ring_27 : decode cX5_ring 27 = .ok (.invokevirtual 52, 3) := by decide +kernel
theorem dX5_ring_30 : decode cX5_ring 30 = .ok (.iconst 1, 1) := by decide +kernel
theorem dX5_ring_31 : decode cX5_ring 31 = .ok (.ireturn, 1) := by decide +kernel
theorem dX5_sheet_0 : decode cX5_sheet 0 = .ok (.aload_n 0, 1) := by decide +kernel
theorem dX5_sheet_1 : decode cX5_sheet 1 = .ok (.iload_n 1, 1) := by decide +kernel
theorem dX5_sheet_2 : decode cX5_sheet 2 = .ok (.iload_n 2, 1) := by decide +kernel
theorem dX5_sheet_3 : decode cX5_sheet 3 = .ok (.invokestatic 56, 3) := by decide +kernel
theorem dX5_sheet_6 : decode cX5_sheet 6 = .ok (.invokevirtual 48, 3) := by decide +kernel
theorem dX5_sheet_9 : decode cX5_sheet 9 = .ok (.ifCond .eq 5, 3) := by decide +kernel
theorem dX5_sheet_12 : decode cX5_sheet 12 = .ok (.iconst (-1), 1) := by decide +kernel
theorem dX5_sheet_13 : decode cX5_sheet 13 = .ok (.ireturn, 1) := by decide +kernel
theorem dX5_sheet_14 : decode cX5_sheet 14 = .ok (.aload_n 0, 1) := by decide +kernel
theorem dX5_sheet_15 : decode cX5_sheet 15 = .ok (.getfield 19, 3) := by decide +kernel
theorem dX5_sheet_18 : decode cX5_sheet 18 = .ok (.iload_n 1, 1) := by decide +kernel
theorem dX5_sheet_19 : decode cX5_sheet 19 = .ok (.iload_n 1, 1) := by decide +kernel
theorem dX5_sheet_20 : decode cX5_sheet 20 = .ok (.iconst 3, 1) := by decide +kernel
theorem dX5_sheet_21 : decode cX5_sheet 21 = .ok (.if_icmp .ne 7, 3) := by decide +kernel
theorem dX5_sheet_24 : decode cX5_sheet 24 = .ok (.iconst 0, 1) := by decide +kernel
theorem dX5_sheet_25 : decode cX5_sheet 25 = .ok (.goto 4, 3) := by decide +kernel
theorem dX5_sheet_28 : decode cX5_sheet 28 = .ok (.iload_n 2, 1) := by decide +kernel
theorem dX5_sheet_29 : decode cX5_sheet 29 = .ok (.invokevirtual 60, 3) := by decide +kernel
theorem dX5_sheet_32 : decode cX5_sheet 32 = .ok (.aload_n 0, 1) := by decide +kernel
theorem dX5_sheet_33 : decode cX5_sheet 33 = .ok (.getfield 19, 3) := by decide +kernel
theorem dX5_sheet_36 : decode cX5_sheet 36 = .ok (.getfield 64, 3) := by decide +kernel
theorem dX5_sheet_39 : decode cX5_sheet 39 = .ok (.ireturn, 1) := by decide +kernel
theorem dX5_entry_0 : decode cX5_entry 0 = .ok (.aload_n 0, 1) := by decide +kernel
theorem dX5_entry_1 : decode cX5_entry 1 = .ok (.getfield 19, 3) := by decide +kernel
theorem dX5_entry_4 : decode cX5_entry 4 = .ok (.getfield 67, 3) := by decide +kernel
theorem dX5_entry_7 : decode cX5_entry 7 = .ok (.iconst (-1), 1) := by decide +kernel
theorem dX5_entry_8 : decode cX5_entry 8 = .ok (.if_icmp .eq 14, 3) := by decide +kernel
theorem dX5_entry_11 : decode cX5_entry 11 = .ok (.aload_n 0, 1) := by decide +kernel
theorem dX5_entry_12 : decode cX5_entry 12 = .ok (.getfield 19, 3) := by decide +kernel
theorem dX5_entry_15 : decode cX5_entry 15 = .ok (.getfield 67, 3) := by decide +kernel
theorem dX5_entry_18 : decode cX5_entry 18 = .ok (.iconst 3, 1) := by decide +kernel
theorem dX5_entry_19 : decode cX5_entry 19 = .ok (.if_icmp .ne 7, 3) := by decide +kernel
theorem dX5_entry_22 : decode cX5_entry 22 = .ok (.iconst 2, 1) := by decide +kernel
theorem dX5_entry_23 : decode cX5_entry 23 = .ok (.goto 23, 3) := by decide +kernel
theorem dX5_entry_26 : decode cX5_entry 26 = .ok (.iload_n 1, 1) := by decide +kernel
theorem dX5_entry_27 : decode cX5_entry 27 = .ok (.ifCond .lt 14, 3) := by decide +kernel
theorem dX5_entry_30 : decode cX5_entry 30 = .ok (.iload_n 1, 1) := by decide +kernel
theorem dX5_entry_31 : decode cX5_entry 31 = .ok (.aload_n 0, 1) := by decide +kernel
theorem dX5_entry_32 : decode cX5_entry 32 = .ok (.getfield 19, 3) := by decide +kernel
theorem dX5_entry_35 : decode cX5_entry 35 = .ok (.getfield 64, 3) := by decide +kernel
theorem dX5_entry_38 : decode cX5_entry 38 = .ok (.if_icmp .lt 7, 3) := by decide +kernel
theorem dX5_entry_41 : decode cX5_entry 41 = .ok (.iconst 1, 1) := by decide +kernel
theorem dX5_entry_42 : decode cX5_entry 42 = .ok (.goto 4, 3) := by decide +kernel
theorem dX5_entry_45 : decode cX5_entry 45 = .ok (.iconst 0, 1) := by decide +kernel
theorem dX5_entry_46 : decode cX5_entry 46 = .ok (.istore_n 3, 1) := by decide +kernel
theorem dX5_entry_47 : decode cX5_entry 47 = .ok (.aload_n 0, 1) := by decide +kernel
theorem dX5_entry_48 : decode cX5_entry 48 = .ok (.iload_n 3, 1) := by decide +kernel
theorem dX5_entry_49 : decode cX5_entry 49 = .ok (.invokevirtual 48, 3) := by decide +kernel
theorem dX5_entry_52 : decode cX5_entry 52 = .ok (.ifCond .eq 5, 3) := by decide +kernel
theorem dX5_entry_55 : decode cX5_entry 55 = .ok (.iconst 0, 1) := by decide +kernel
theorem dX5_entry_56 : decode cX5_entry 56 = .ok (.ireturn, 1) := by decide +kernel
theorem dX5_entry_57 : decode cX5_entry 57 = .ok (.aload_n 0, 1) := by decide +kernel
theorem dX5_entry_58 : decode cX5_entry 58 = .ok (.getfield 19, 3) := by decide +kernel
theorem dX5_entry_61 : decode cX5_entry 61 = .ok (.iload_n 1, 1) := by decide +kernel
theorem dX5_entry_62 : decode cX5_entry 62 = .ok (.iload_n 2, 1) := by decide +kernel
theorem dX5_entry_63 : decode cX5_entry 63 = .ok (.invokevirtual 70, 3) := by decide +kernel
theorem dX5_entry_66 : decode cX5_entry 66 = .ok (.iconst 1, 1) := by decide +kernel
theorem dX5_entry_67 : decode cX5_entry 67 = .ok (.ireturn, 1) := by decide +kernel
theorem dX5_lay_0 : decode cX5_lay 0 = .ok (.aload_n 0, 1) := by decide +kernel
theorem dX5_lay_1 : decode cX5_lay 1 = .ok (.aload_n 0, 1) := by decide +kernel
theorem dX5_lay_2 : decode cX5_lay 2 = .ok (.iload_n 1, 1) := by decide +kernel
theorem dX5_lay_3 : decode cX5_lay 3 = .ok (.invokevirtual 73, 3) := by decide +kernel
theorem dX5_lay_6 : decode cX5_lay 6 = .ok (.invokevirtual 48, 3) := by decide +kernel
theorem dX5_lay_9 : decode cX5_lay 9 = .ok (.ifCond .eq 5, 3) := by decide +kernel
theorem dX5_lay_12 : decode cX5_lay 12 = .ok (.iconst 0, 1) := by decide +kernel
theorem dX5_lay_13 : decode cX5_lay 13 = .ok (.ireturn, 1) := by decide +kernel
theorem dX5_lay_14 : decode cX5_lay 14 = .ok (.iconst 0, 1) := by decide +kernel
theorem dX5_lay_15 : decode cX5_lay 15 = .ok (.istore_n 2, 1) := by decide +kernel
theorem dX5_lay_16 : decode cX5_lay 16 = .ok (.iload_n 2, 1) := by decide +kernel
theorem dX5_lay_17 : decode cX5_lay 17 = .ok (.aload_n 0, 1) := by decide +kernel
theorem dX5_lay_18 : decode cX5_lay 18 = .ok (.getfield 10, 3) := by decide +kernel
theorem dX5_lay_21 : decode cX5_lay 21 = .ok (.getfield 77, 3) := by decide +kernel
theorem dX5_lay_24 : decode cX5_lay 24 = .ok (.if_icmp .ge 26, 3) := by decide +kernel
theorem dX5_lay_27 : decode cX5_lay 27 = .ok (.aload_n 0, 1) := by decide +kernel
theorem dX5_lay_28 : decode cX5_lay 28 = .ok (.getfield 10, 3) := by decide +kernel
theorem dX5_lay_31 : decode cX5_lay 31 = .ok (.iload_n 1, 1) := by decide +kernel
theorem dX5_lay_32 : decode cX5_lay 32 = .ok (.iload_n 2, 1) := by decide +kernel
theorem dX5_lay_33 : decode cX5_lay 33 = .ok (.aload_n 0, 1) := by decide +kernel
theorem dX5_lay_34 : decode cX5_lay 34 = .ok (.getfield 19, 3) := by decide +kernel
theorem dX5_lay_37 : decode cX5_lay 37 = .ok (.iload_n 2, 1) := by decide +kernel
theorem dX5_lay_38 : decode cX5_lay 38 = .ok (.invokevirtual 80, 3) := by decide +kernel
theorem dX5_lay_41 : decode cX5_lay 41 = .ok (.invokevirtual 83, 3) := by decide +kernel
theorem dX5_lay_44 : decode cX5_lay 44 = .ok (.iinc 2 1, 3) := by decide +kernel
theorem dX5_lay_47 : decode cX5_lay 47 = .ok (.goto (-31), 3) := by decide +kernel
theorem dX5_lay_50 : decode cX5_lay 50 = .ok (.aload_n 0, 1) := by decide +kernel
theorem dX5_lay_51 : decode cX5_lay 51 = .ok (.getfield 19, 3) := by decide +kernel
theorem dX5_lay_54 : decode cX5_lay 54 = .ok (.invokevirtual 87, 3) := by decide +kernel
theorem dX5_lay_57 : decode cX5_lay 57 = .ok (.aload_n 0, 1) := by decide +kernel
theorem dX5_lay_58 : decode cX5_lay 58 = .ok (.iload_n 1, 1) := by decide +kernel
theorem dX5_lay_59 : decode cX5_lay 59 = .ok (.invokevirtual 90, 3) := by decide +kernel
theorem dX5_lay_62 : decode cX5_lay 62 = .ok (.iconst 1, 1) := by decide +kernel
theorem dX5_lay_63 : decode cX5_lay 63 = .ok (.ireturn, 1) := by decide +kernel
theorem dX5_set_0 : decode cX5_set 0 = .ok (.iload_n 1, 1) := by decide +kernel
theorem dX5_set_1 : decode cX5_set 1 = .ok (.invokestatic 93, 3) := by decide +kernel
theorem dX5_set_4 : decode cX5_set 4 = .ok (.ifCond .eq 26, 3) := by decide +kernel
theorem dX5_set_7 : decode cX5_set 7 = .ok (.aload_n 0, 1) := by decide +kernel
theorem dX5_set_8 : decode cX5_set 8 = .ok (.getfield 10, 3) := by decide +kernel
theorem dX5_set_11 : decode cX5_set 11 = .ok (.iload_n 2, 1) := by decide +kernel
theorem dX5_set_12 : decode cX5_set 12 = .ok (.invokevirtual 96, 3) := by decide +kernel
theorem dX5_set_15 : decode cX5_set 15 = .ok (.ifCond .eq 15, 3) := by decide +kernel
theorem dX5_set_18 : decode cX5_set 18 = .ok (.iload_n 1, 1) := by decide +kernel
theorem dX5_set_19 : decode cX5_set 19 = .ok (.iload_n 3, 1) := by decide +kernel
theorem dX5_set_20 : decode cX5_set 20 = .ok (.invokestatic 99, 3) := by decide +kernel
theorem dX5_set_23 : decode cX5_set 23 = .ok (.ifCond .eq 7, 3) := by decide +kernel
theorem dX5_set_26 : decode cX5_set 26 = .ok (.iconst 1, 1) := by decide +kernel
theorem dX5_set_27 : decode cX5_set 27 = .ok (.goto 4, 3) := by decide +kernel
theorem dX5_set_30 : decode cX5_set 30 = .ok (.iconst 0, 1) := by decide +kernel
theorem dX5_set_31 : decode cX5_set 31 = .ok (.istore 4, 2) := by decide +kernel
theorem dX5_set_33 : decode cX5_set 33 = .ok (.aload_n 0, 1) := by decide +kernel
theorem dX5_set_34 : decode cX5_set 34 = .ok (.iload 4, 2) := by decide +kernel
theorem dX5_set_36 : decode cX5_set 36 = .ok (.ifCond .eq 7, 3) := by decide +kernel
theorem dX5_set_39 : decode cX5_set 39 = .ok (.iconst 0, 1) := by decide +kernel
theorem dX5_set_40 : decode cX5_set 40 = .ok (.goto 4, 3) := by decide +kernel
theorem dX5_set_43 : decode cX5_set 43 = .ok (.iconst 1, 1) := by decide +kernel
theorem dX5_set_44 : decode cX5_set 44 = .ok (.invokevirtual 48, 3) := by decide +kernel
theorem dX5_set_47 : decode cX5_set 47 = .ok (.ifCond .eq 5, 3) := by decide +kernel
theorem dX5_set_50 : decode cX5_set 50 = .ok (.iconst 0, 1) := by decide +kernel
theorem dX5_set_51 : decode cX5_set 51 = .ok (.ireturn, 1) := by decide +kernel
theorem dX5_set_52 : decode cX5_set 52 = .ok (.aload_n 0, 1) := by decide +kernel
theorem dX5_set_53 : decode cX5_set 53 = .ok (.getfield 10, 3) := by decide +kernel
theorem dX5_set_56 : decode cX5_set 56 = .ok (.iload_n 1, 1) := by decide +kernel
theorem dX5_set_57 : decode cX5_set 57 = .ok (.iload_n 2, 1) := by decide +kernel
theorem dX5_set_58 : decode cX5_set 58 = .ok (.iload_n 3, 1) := by decide +kernel
theorem dX5_set_59 : decode cX5_set 59 = .ok (.invokevirtual 83, 3) := by decide +kernel
theorem dX5_set_62 : decode cX5_set 62 = .ok (.aload_n 0, 1) := by decide +kernel
theorem dX5_set_63 : decode cX5_set 63 = .ok (.iload_n 1, 1) := by decide +kernel
theorem dX5_set_64 : decode cX5_set 64 = .ok (.invokevirtual 90, 3) := by decide +kernel
theorem dX5_set_67 : decode cX5_set 67 = .ok (.iconst 1, 1) := by decide +kernel
theorem dX5_set_68 : decode cX5_set 68 = .ok (.ireturn, 1) := by decide +kernel
theorem dX5_miss_0 : decode cX5_miss 0 = .ok (.aload_n 0, 1) := by decide +kernel
theorem dX5_miss_1 : decode cX5_miss 1 = .ok (.aload_n 0, 1) := by decide +kernel
theorem dX5_miss_2 : decode cX5_miss 2 = .ok (.getfield 10, 3) := by decide +kernel
theorem dX5_miss_5 : decode cX5_miss 5 = .ok (.iload_n 1, 1) := by decide +kernel
theorem dX5_miss_6 : decode cX5_miss 6 = .ok (.invokevirtual 96, 3) := by decide +kernel
theorem dX5_miss_9 : decode cX5_miss 9 = .ok (.ifCond .eq 7, 3) := by decide +kernel
theorem dX5_miss_12 : decode cX5_miss 12 = .ok (.iconst 0, 1) := by decide +kernel
theorem dX5_miss_13 : decode cX5_miss 13 = .ok (.goto 4, 3) := by decide +kernel
theorem dX5_miss_16 : decode cX5_miss 16 = .ok (.iconst 1, 1) := by decide +kernel
theorem dX5_miss_17 : decode cX5_miss 17 = .ok (.invokevirtual 48, 3) := by decide +kernel
theorem dX5_miss_20 : decode cX5_miss 20 = .ok (.ifCond .eq 5, 3) := by decide +kernel
theorem dX5_miss_23 : decode cX5_miss 23 = .ok (.iconst 0, 1) := by decide +kernel
theorem dX5_miss_24 : decode cX5_miss 24 = .ok (.ireturn, 1) := by decide +kernel
theorem dX5_miss_25 : decode cX5_miss 25 = .ok (.aload_n 0, 1) := by decide +kernel
theorem dX5_miss_26 : decode cX5_miss 26 = .ok (.getfield 10, 3) := by decide +kernel
theorem dX5_miss_29 : decode cX5_miss 29 = .ok (.iconst 2, 1) := by decide +kernel
theorem dX5_miss_30 : decode cX5_miss 30 = .ok (.iload_n 1, 1) := by decide +kernel
theorem dX5_miss_31 : decode cX5_miss 31 = .ok (.ldc 103, 2) := by decide +kernel
theorem dX5_miss_33 : decode cX5_miss 33 = .ok (.invokevirtual 83, 3) := by decide +kernel
theorem dX5_miss_36 : decode cX5_miss 36 = .ok (.iconst 1, 1) := by decide +kernel
theorem dX5_miss_37 : decode cX5_miss 37 = .ok (.ireturn, 1) := by decide +kernel
theorem dX5_at_0 : decode cX5_at 0 = .ok (.iload_n 1, 1) := by decide +kernel
theorem dX5_at_1 : decode cX5_at 1 = .ok (.invokestatic 93, 3) := by decide +kernel
theorem dX5_at_4 : decode cX5_at 4 = .ok (.ifCond .eq 14, 3) := by decide +kernel
theorem dX5_at_7 : decode cX5_at 7 = .ok (.aload_n 0, 1) := by decide +kernel
theorem dX5_at_8 : decode cX5_at 8 = .ok (.getfield 10, 3) := by decide +kernel
theorem dX5_at_11 : decode cX5_at 11 = .ok (.iload_n 2, 1) := by decide +kernel
theorem dX5_at_12 : decode cX5_at 12 = .ok (.invokevirtual 96, 3) := by decide +kernel
theorem dX5_at_15 : decode cX5_at 15 = .ok (.ifCond .ne 13, 3) := by decide +kernel
theorem dX5_at_18 : decode cX5_at 18 = .ok (.new 104, 3) := by decide +kernel
theorem dX5_at_21 : decode cX5_at 21 = .ok (.dup, 1) := by decide +kernel
theorem dX5_at_22 : decode cX5_at 22 = .ok (.ldc 106, 2) := by decide +kernel
theorem dX5_at_24 : decode cX5_at 24 = .ok (.invokespecial 108, 3) := by decide +kernel
theorem dX5_at_27 : decode cX5_at 27 = .ok (.athrow, 1) := by decide +kernel
theorem dX5_at_28 : decode cX5_at 28 = .ok (.aload_n 0, 1) := by decide +kernel
theorem dX5_at_29 : decode cX5_at 29 = .ok (.getfield 10, 3) := by decide +kernel
theorem dX5_at_32 : decode cX5_at 32 = .ok (.iload_n 1, 1) := by decide +kernel
theorem dX5_at_33 : decode cX5_at 33 = .ok (.iload_n 2, 1) := by decide +kernel
theorem dX5_at_34 : decode cX5_at 34 = .ok (.invokevirtual 111, 3) := by decide +kernel
theorem dX5_at_37 : decode cX5_at 37 = .ok (.istore_n 3, 1) := by decide +kernel
theorem dX5_at_38 : decode cX5_at 38 = .ok (.iload_n 3, 1) := by decide +kernel
theorem dX5_at_39 : decode cX5_at 39 = .ok (.ldc 103, 2) := by decide +kernel
theorem dX5_at_41 : decode cX5_at 41 = .ok (.if_icmp .ne 13, 3) := by decide +kernel
theorem dX5_at_44 : decode cX5_at 44 = .ok (.new 104, 3) := by decide +kernel
theorem dX5_at_47 : decode cX5_at 47 = .ok (.dup, 1) := by decide +kernel
theorem dX5_at_48 : decode cX5_at 48 = .ok (.ldc 114, 2) := by decide +kernel
theorem dX5_at_50 : decode cX5_at 50 = .ok (.invokespecial 108, 3) := by decide +kernel
theorem dX5_at_53 : decode cX5_at 53 = .ok (.athrow, 1) := by decide +kernel
theorem dX5_at_54 : decode cX5_at 54 = .ok (.iload_n 3, 1) := by decide +kernel
theorem dX5_at_55 : decode cX5_at 55 = .ok (.ireturn, 1) := by decide +kernel
theorem dX5_count_0 : decode cX5_count 0 = .ok (.aload_n 0, 1) := by decide +kernel
theorem dX5_count_1 : decode cX5_count 1 = .ok (.iload_n 1, 1) := by decide +kernel
theorem dX5_count_2 : decode cX5_count 2 = .ok (.ifCond .lt 9, 3) := by decide +kernel
theorem dX5_count_5 : decode cX5_count 5 = .ok (.iload_n 1, 1) := by decide +kernel
theorem dX5_count_6 : decode cX5_count 6 = .ok (.bipush 7, 2) := by decide +kernel
theorem dX5_count_8 : decode cX5_count 8 = .ok (.if_icmp .le 7, 3) := by decide +kernel
theorem dX5_count_11 : decode cX5_count 11 = .ok (.iconst 1, 1) := by decide +kernel
theorem dX5_count_12 : decode cX5_count 12 = .ok (.goto 4, 3) := by decide +kernel
theorem dX5_count_15 : decode cX5_count 15 = .ok (.iconst 0, 1) := by decide +kernel
theorem dX5_count_16 : decode cX5_count 16 = .ok (.invokevirtual 48, 3) := by decide +kernel
theorem dX5_count_19 : decode cX5_count 19 = .ok (.ifCond .eq 5, 3) := by decide +kernel
theorem dX5_count_22 : decode cX5_count 22 = .ok (.iconst (-1), 1) := by decide +kernel
theorem dX5_count_23 : decode cX5_count 23 = .ok (.ireturn, 1) := by decide +kernel
theorem dX5_count_24 : decode cX5_count 24 = .ok (.iload_n 1, 1) := by decide +kernel
theorem dX5_count_25 : decode cX5_count 25 = .ok (.tableswitch 144 0 6 #[43, 51, 61, 71, 82, 99, 121], 43) := by decide +kernel
theorem dX5_count_68 : decode cX5_count 68 = .ok (.aload_n 0, 1) := by decide +kernel
theorem dX5_count_69 : decode cX5_count 69 = .ok (.getfield 10, 3) := by decide +kernel
theorem dX5_count_72 : decode cX5_count 72 = .ok (.getfield 77, 3) := by decide +kernel
theorem dX5_count_75 : decode cX5_count 75 = .ok (.ireturn, 1) := by decide +kernel
theorem dX5_count_76 : decode cX5_count 76 = .ok (.aload_n 0, 1) := by decide +kernel
theorem dX5_count_77 : decode cX5_count 77 = .ok (.getfield 10, 3) := by decide +kernel
theorem dX5_count_80 : decode cX5_count 80 = .ok (.iconst 0, 1) := by decide +kernel
theorem dX5_count_81 : decode cX5_count 81 = .ok (.iconst 1, 1) := by decide +kernel
theorem dX5_count_82 : decode cX5_count 82 = .ok (.invokevirtual 116, 3) := by decide +kernel
theorem dX5_count_85 : decode cX5_count 85 = .ok (.ireturn, 1) := by decide +kernel
theorem dX5_count_86 : decode cX5_count 86 = .ok (.aload_n 0, 1) := by decide +kernel
theorem dX5_count_87 : decode cX5_count 87 = .ok (.getfield 10, 3) := by decide +kernel
theorem dX5_count_90 : decode cX5_count 90 = .ok (.iconst 0, 1) := by decide +kernel
theorem dX5_count_91 : decode cX5_count 91 = .ok (.iconst (-1), 1) := by decide +kernel
theorem dX5_count_92 : decode cX5_count 92 = .ok (.invokevirtual 116, 3) := by decide +kernel
theorem dX5_count_95 : decode cX5_count 95 = .ok (.ireturn, 1) := by decide +kernel
theorem dX5_count_96 : decode cX5_count 96 = .ok (.aload_n 0, 1) := by decide +kernel
theorem dX5_count_97 : decode cX5_count 97 = .ok (.getfield 10, 3) := by decide +kernel
theorem dX5_count_100 : decode cX5_count 100 = .ok (.iconst 2, 1) := by decide +kernel
theorem dX5_count_101 : decode cX5_count 101 = .ok (.ldc 103, 2) := by decide +kernel
theorem dX5_count_103 : decode cX5_count 103 = .ok (.invokevirtual 116, 3) := by decide +kernel
theorem dX5_count_106 : decode cX5_count 106 = .ok (.ireturn, 1) := by decide +kernel
theorem dX5_count_107 : decode cX5_count 107 = .ok (.aload_n 0, 1) := by decide +kernel
theorem dX5_count_108 : decode cX5_count 108 = .ok (.getfield 10, 3) := by decide +kernel
theorem dX5_count_111 : decode cX5_count 111 = .ok (.invokevirtual 119, 3) := by decide +kernel
theorem dX5_count_114 : decode cX5_count 114 = .ok (.iconst (-1), 1) := by decide +kernel
theorem dX5_count_115 : decode cX5_count 115 = .ok (.if_icmp .ne 7, 3) := by decide +kernel
theorem dX5_count_118 : decode cX5_count 118 = .ok (.iconst 1, 1) := by decide +kernel
theorem dX5_count_119 : decode cX5_count 119 = .ok (.goto 4, 3) := by decide +kernel
theorem dX5_count_122 : decode cX5_count 122 = .ok (.iconst 0, 1) := by decide +kernel
theorem dX5_count_123 : decode cX5_count 123 = .ok (.ireturn, 1) := by decide +kernel
theorem dX5_count_124 : decode cX5_count 124 = .ok (.aload_n 0, 1) := by decide +kernel
theorem dX5_count_125 : decode cX5_count 125 = .ok (.getfield 40, 3) := by decide +kernel
theorem dX5_count_128 : decode cX5_count 128 = .ok (.getfield 123, 3) := by decide +kernel
theorem dX5_count_131 : decode cX5_count 131 = .ok (.ifCond .ne 7, 3) := by decide +kernel
theorem dX5_count_134 : decode cX5_count 134 = .ok (.iconst (-1), 1) := by decide +kernel
theorem dX5_count_135 : decode cX5_count 135 = .ok (.goto 10, 3) := by decide +kernel
theorem dX5_count_138 : decode cX5_count 138 = .ok (.aload_n 0, 1) := by decide +kernel
theorem dX5_count_139 : decode cX5_count 139 = .ok (.getfield 40, 3) := by decide +kernel
theorem dX5_count_142 : decode cX5_count 142 = .ok (.getfield 123, 3) := by decide +kernel
theorem dX5_count_145 : decode cX5_count 145 = .ok (.ireturn, 1) := by decide +kernel
theorem dX5_count_146 : decode cX5_count 146 = .ok (.aload_n 0, 1) := by decide +kernel
theorem dX5_count_147 : decode cX5_count 147 = .ok (.getfield 19, 3) := by decide +kernel
theorem dX5_count_150 : decode cX5_count 150 = .ok (.getfield 67, 3) := by decide +kernel
theorem dX5_count_153 : decode cX5_count 153 = .ok (.iconst (-1), 1) := by decide +kernel
theorem dX5_count_154 : decode cX5_count 154 = .ok (.if_icmp .ne 7, 3) := by decide +kernel
theorem dX5_count_157 : decode cX5_count 157 = .ok (.iconst (-1), 1) := by decide +kernel
theorem dX5_count_158 : decode cX5_count 158 = .ok (.goto 10, 3) := by decide +kernel
theorem dX5_count_161 : decode cX5_count 161 = .ok (.aload_n 0, 1) := by decide +kernel
theorem dX5_count_162 : decode cX5_count 162 = .ok (.getfield 19, 3) := by decide +kernel
theorem dX5_count_165 : decode cX5_count 165 = .ok (.getfield 64, 3) := by decide +kernel
theorem dX5_count_168 : decode cX5_count 168 = .ok (.ireturn, 1) := by decide +kernel
theorem dX5_count_169 : decode cX5_count 169 = .ok (.aload_n 0, 1) := by decide +kernel
theorem dX5_count_170 : decode cX5_count 170 = .ok (.getfield 33, 3) := by decide +kernel
theorem dX5_count_173 : decode cX5_count 173 = .ok (.getfield 126, 3) := by decide +kernel
theorem dX5_count_176 : decode cX5_count 176 = .ok (.ireturn, 1) := by decide +kernel
theorem dX5_shadow_0 : decode cX5_shadow 0 = .ok (.aload_n 0, 1) := by decide +kernel
theorem dX5_shadow_1 : decode cX5_shadow 1 = .ok (.aload_n 0, 1) := by decide +kernel
theorem dX5_shadow_2 : decode cX5_shadow 2 = .ok (.getfield 10, 3) := by decide +kernel
theorem dX5_shadow_5 : decode cX5_shadow 5 = .ok (.iload_n 1, 1) := by decide +kernel
theorem dX5_shadow_6 : decode cX5_shadow 6 = .ok (.invokevirtual 96, 3) := by decide +kernel
theorem dX5_shadow_9 : decode cX5_shadow 9 = .ok (.ifCond .eq 7, 3) := by decide +kernel
theorem dX5_shadow_12 : decode cX5_shadow 12 = .ok (.iconst 0, 1) := by decide +kernel
theorem dX5_shadow_13 : decode cX5_shadow 13 = .ok (.goto 4, 3) := by decide +kernel
theorem dX5_shadow_16 : decode cX5_shadow 16 = .ok (.iconst 1, 1) := by decide +kernel
theorem dX5_shadow_17 : decode cX5_shadow 17 = .ok (.invokevirtual 48, 3) := by decide +kernel
theorem dX5_shadow_20 : decode cX5_shadow 20 = .ok (.ifCond .eq 5, 3) := by decide +kernel
theorem dX5_shadow_23 : decode cX5_shadow 23 = .ok (.iconst 0, 1) := by decide +kernel
theorem dX5_shadow_24 : decode cX5_shadow 24 = .ok (.ireturn, 1) := by decide +kernel
theorem dX5_shadow_25 : decode cX5_shadow 25 = .ok (.aload_n 0, 1) := by decide +kernel
theorem dX5_shadow_26 : decode cX5_shadow 26 = .ok (.getfield 10, 3) := by decide +kernel
theorem dX5_shadow_29 : decode cX5_shadow 29 = .ok (.iload_n 1, 1) := by decide +kernel
theorem dX5_shadow_30 : decode cX5_shadow 30 = .ok (.invokevirtual 129, 3) := by decide +kernel
theorem dX5_shadow_33 : decode cX5_shadow 33 = .ok (.ireturn, 1) := by decide +kernel
theorem dX5_cast_0 : decode cX5_cast 0 = .ok (.aload_n 0, 1) := by decide +kernel
theorem dX5_cast_1 : decode cX5_cast 1 = .ok (.iconst 0, 1) := by decide +kernel
theorem dX5_cast_2 : decode cX5_cast 2 = .ok (.putfield 44, 3) := by decide +kernel
theorem dX5_cast_5 : decode cX5_cast 5 = .ok (.iconst 0, 1) := by decide +kernel
theorem dX5_cast_6 : decode cX5_cast 6 = .ok (.istore_n 1, 1) := by decide +kernel
theorem dX5_cast_7 : decode cX5_cast 7 = .ok (.iload_n 1, 1) := by decide +kernel
theorem dX5_cast_8 : decode cX5_cast 8 = .ok (.aload_n 0, 1) := by decide +kernel
theorem dX5_cast_9 : decode cX5_cast 9 = .ok (.getfield 10, 3) := by decide +kernel
theorem dX5_cast_12 : decode cX5_cast 12 = .ok (.getfield 77, 3) := by decide +kernel
theorem dX5_cast_15 : decode cX5_cast 15 = .ok (.if_icmp .ge 26, 3) := by decide +kernel
theorem dX5_cast_18 : decode cX5_cast 18 = .ok (.aload_n 0, 1) := by decide +kernel
theorem dX5_cast_19 : decode cX5_cast 19 = .ok (.getfield 10, 3) := by decide +kernel
theorem dX5_cast_22 : decode cX5_cast 22 = .ok (.iconst 2, 1) := by decide +kernel
theorem dX5_cast_23 : decode cX5_cast 23 = .ok (.iload_n 1, 1) := by decide +kernel
theorem dX5_cast_24 : decode cX5_cast 24 = .ok (.aload_n 0, 1) := by decide +kernel
theorem dX5_cast_25 : decode cX5_cast 25 = .ok (.getfield 10, 3) := by decide +kernel
theorem dX5_cast_28 : decode cX5_cast 28 = .ok (.iload_n 1, 1) := by decide +kernel
theorem dX5_cast_29 : decode cX5_cast 29 = .ok (.invokevirtual 129, 3) := by decide +kernel
theorem dX5_cast_32 : decode cX5_cast 32 = .ok (.invokevirtual 83, 3) := by decide +kernel
theorem dX5_cast_35 : decode cX5_cast 35 = .ok (.iinc 1 1, 3) := by decide +kernel
theorem dX5_cast_38 : decode cX5_cast 38 = .ok (.goto (-31), 3) := by decide +kernel
theorem dX5_cast_41 : decode cX5_cast 41 = .ok (.iconst 1, 1) := by decide +kernel
theorem dX5_cast_42 : decode cX5_cast 42 = .ok (.ireturn, 1) := by decide +kernel
theorem dX5_meets_0 : decode cX5_meets 0 = .ok (.aload_n 0, 1) := by decide +kernel
theorem dX5_meets_1 : decode cX5_meets 1 = .ok (.aload_n 0, 1) := by decide +kernel
theorem dX5_meets_2 : decode cX5_meets 2 = .ok (.getfield 10, 3) := by decide +kernel
theorem dX5_meets_5 : decode cX5_meets 5 = .ok (.iload_n 1, 1) := by decide +kernel
theorem dX5_meets_6 : decode cX5_meets 6 = .ok (.invokevirtual 96, 3) := by decide +kernel
theorem dX5_meets_9 : decode cX5_meets 9 = .ok (.ifCond .eq 7, 3) := by decide +kernel
theorem dX5_meets_12 : decode cX5_meets 12 = .ok (.iconst 0, 1) := by decide +kernel
theorem dX5_meets_13 : decode cX5_meets 13 = .ok (.goto 4, 3) := by decide +kernel
theorem dX5_meets_16 : decode cX5_meets 16 = .ok (.iconst 1, 1) := by decide +kernel
theorem dX5_meets_17 : decode cX5_meets 17 = .ok (.invokevirtual 48, 3) := by decide +kernel
theorem dX5_meets_20 : decode cX5_meets 20 = .ok (.ifCond .eq 5, 3) := by decide +kernel
theorem dX5_meets_23 : decode cX5_meets 23 = .ok (.iconst 0, 1) := by decide +kernel
theorem dX5_meets_24 : decode cX5_meets 24 = .ok (.ireturn, 1) := by decide +kernel
theorem dX5_meets_25 : decode cX5_meets 25 = .ok (.aload_n 0, 1) := by decide +kernel
theorem dX5_meets_26 : decode cX5_meets 26 = .ok (.getfield 10, 3) := by decide +kernel
theorem dX5_meets_29 : decode cX5_meets 29 = .ok (.iload_n 1, 1) := by decide +kernel
theorem dX5_meets_30 : decode cX5_meets 30 = .ok (.invokevirtual 132, 3) := by decide +kernel
theorem dX5_meets_33 : decode cX5_meets 33 = .ok (.ireturn, 1) := by decide +kernel
theorem dX5_off_0 : decode cX5_off 0 = .ok (.aload_n 0, 1) := by decide +kernel
theorem dX5_off_1 : decode cX5_off 1 = .ok (.iconst 0, 1) := by decide +kernel
theorem dX5_off_2 : decode cX5_off 2 = .ok (.putfield 44, 3) := by decide +kernel
theorem dX5_off_5 : decode cX5_off 5 = .ok (.aload_n 0, 1) := by decide +kernel
theorem dX5_off_6 : decode cX5_off 6 = .ok (.getfield 10, 3) := by decide +kernel
theorem dX5_off_9 : decode cX5_off 9 = .ok (.invokevirtual 119, 3) := by decide +kernel
theorem dX5_off_12 : decode cX5_off 12 = .ok (.ireturn, 1) := by decide +kernel
theorem dX5_turn_0 : decode cX5_turn 0 = .ok (.aload_n 0, 1) := by decide +kernel
theorem dX5_turn_1 : decode cX5_turn 1 = .ok (.iconst 0, 1) := by decide +kernel
theorem dX5_turn_2 : decode cX5_turn 2 = .ok (.putfield 44, 3) := by decide +kernel
theorem dX5_turn_5 : decode cX5_turn 5 = .ok (.aload_n 0, 1) := by decide +kernel
theorem dX5_turn_6 : decode cX5_turn 6 = .ok (.getfield 10, 3) := by decide +kernel
theorem dX5_turn_9 : decode cX5_turn 9 = .ok (.iload_n 1, 1) := by decide +kernel
theorem dX5_turn_10 : decode cX5_turn 10 = .ok (.invokevirtual 135, 3) := by decide +kernel
theorem dX5_turn_13 : decode cX5_turn 13 = .ok (.aload_n 0, 1) := by decide +kernel
theorem dX5_turn_14 : decode cX5_turn 14 = .ok (.getfield 26, 3) := by decide +kernel
theorem dX5_turn_17 : decode cX5_turn 17 = .ok (.iconst 0, 1) := by decide +kernel
theorem dX5_turn_18 : decode cX5_turn 18 = .ok (.putfield 138, 3) := by decide +kernel
theorem dX5_turn_21 : decode cX5_turn 21 = .ok (.iconst 1, 1) := by decide +kernel
theorem dX5_turn_22 : decode cX5_turn 22 = .ok (.ireturn, 1) := by decide +kernel
theorem dX5_anti_0 : decode cX5_anti 0 = .ok (.aload_n 0, 1) := by decide +kernel
theorem dX5_anti_1 : decode cX5_anti 1 = .ok (.aload_n 0, 1) := by decide +kernel
theorem dX5_anti_2 : decode cX5_anti 2 = .ok (.getfield 10, 3) := by decide +kernel
theorem dX5_anti_5 : decode cX5_anti 5 = .ok (.iconst 0, 1) := by decide +kernel
theorem dX5_anti_6 : decode cX5_anti 6 = .ok (.iconst (-1), 1) := by decide +kernel
theorem dX5_anti_7 : decode cX5_anti 7 = .ok (.invokevirtual 116, 3) := by decide +kernel
theorem dX5_anti_10 : decode cX5_anti 10 = .ok (.ifCond .le 7, 3) := by decide +kernel
theorem dX5_anti_13 : decode cX5_anti 13 = .ok (.iconst 1, 1) := by decide +kernel
theorem dX5_anti_14 : decode cX5_anti 14 = .ok (.goto 4, 3) := by decide +kernel
theorem dX5_anti_17 : decode cX5_anti 17 = .ok (.iconst 0, 1) := by decide +kernel
theorem dX5_anti_18 : decode cX5_anti 18 = .ok (.invokevirtual 48, 3) := by decide +kernel
theorem dX5_anti_21 : decode cX5_anti 21 = .ok (.ifCond .eq 5, 3) := by decide +kernel
theorem dX5_anti_24 : decode cX5_anti 24 = .ok (.iconst 0, 1) := by decide +kernel
theorem dX5_anti_25 : decode cX5_anti 25 = .ok (.ireturn, 1) := by decide +kernel
theorem dX5_anti_26 : decode cX5_anti 26 = .ok (.iconst 0, 1) := by decide +kernel
theorem dX5_anti_27 : decode cX5_anti 27 = .ok (.istore_n 1, 1) := by decide +kernel
theorem dX5_anti_28 : decode cX5_anti 28 = .ok (.iload_n 1, 1) := by decide +kernel
theorem dX5_anti_29 : decode cX5_anti 29 = .ok (.aload_n 0, 1) := by decide +kernel
theorem dX5_anti_30 : decode cX5_anti 30 = .ok (.getfield 10, 3) := by decide +kernel
theorem dX5_anti_33 : decode cX5_anti 33 = .ok (.getfield 77, 3) := by decide +kernel
theorem dX5_anti_36 : decode cX5_anti 36 = .ok (.if_icmp .ge 29, 3) := by decide +kernel
theorem dX5_anti_39 : decode cX5_anti 39 = .ok (.aload_n 0, 1) := by decide +kernel
theorem dX5_anti_40 : decode cX5_anti 40 = .ok (.getfield 10, 3) := by decide +kernel
theorem dX5_anti_43 : decode cX5_anti 43 = .ok (.iconst 0, 1) := by decide +kernel
theorem dX5_anti_44 : decode cX5_anti 44 = .ok (.iload_n 1, 1) := by decide +kernel
theorem dX5_anti_45 : decode cX5_anti 45 = .ok (.iconst 1, 1) := by decide +kernel
theorem dX5_anti_46 : decode cX5_anti 46 = .ok (.aload_n 0, 1) := by decide +kernel
theorem dX5_anti_47 : decode cX5_anti 47 = .ok (.getfield 10, 3) := by decide +kernel
theorem dX5_anti_50 : decode cX5_anti 50 = .ok (.iconst 0, 1) := by decide +kernel
theorem dX5_anti_51 : decode cX5_anti 51 = .ok (.iload_n 1, 1) := by decide +kernel
theorem dX5_anti_52 : decode cX5_anti 52 = .ok (.invokevirtual 111, 3) := by decide +kernel
theorem dX5_anti_55 : decode cX5_anti 55 = .ok (.isub, 1) := by decide +kernel
theorem dX5_anti_56 : decode cX5_anti 56 = .ok (.invokevirtual 83, 3) := by decide +kernel
theorem dX5_anti_59 : decode cX5_anti 59 = .ok (.iinc 1 1, 3) := by decide +kernel
theorem dX5_anti_62 : decode cX5_anti 62 = .ok (.goto (-34), 3) := by decide +kernel
theorem dX5_anti_65 : decode cX5_anti 65 = .ok (.aload_n 0, 1) := by decide +kernel
theorem dX5_anti_66 : decode cX5_anti 66 = .ok (.getfield 26, 3) := by decide +kernel
theorem dX5_anti_69 : decode cX5_anti 69 = .ok (.iconst 0, 1) := by decide +kernel
theorem dX5_anti_70 : decode cX5_anti 70 = .ok (.putfield 138, 3) := by decide +kernel
theorem dX5_anti_73 : decode cX5_anti 73 = .ok (.iconst 1, 1) := by decide +kernel
theorem dX5_anti_74 : decode cX5_anti 74 = .ok (.ireturn, 1) := by decide +kernel
theorem dX5_fold_0 : decode cX5_fold 0 = .ok (.aload_n 0, 1) := by decide +kernel
theorem dX5_fold_1 : decode cX5_fold 1 = .ok (.aload_n 0, 1) := by decide +kernel
theorem dX5_fold_2 : decode cX5_fold 2 = .ok (.iload_n 1, 1) := by decide +kernel
theorem dX5_fold_3 : decode cX5_fold 3 = .ok (.iload_n 2, 1) := by decide +kernel
theorem dX5_fold_4 : decode cX5_fold 4 = .ok (.iload_n 3, 1) := by decide +kernel
theorem dX5_fold_5 : decode cX5_fold 5 = .ok (.iload 4, 2) := by decide +kernel
theorem dX5_fold_7 : decode cX5_fold 7 = .ok (.invokevirtual 142, 3) := by decide +kernel
theorem dX5_fold_10 : decode cX5_fold 10 = .ok (.ifCond .eq 7, 3) := by decide +kernel
theorem dX5_fold_13 : decode cX5_fold 13 = .ok (.iconst 0, 1) := by decide +kernel
theorem dX5_fold_14 : decode cX5_fold 14 = .ok (.goto 4, 3) := by decide +kernel
theorem dX5_fold_17 : decode cX5_fold 17 = .ok (.iconst 1, 1) := by decide +kernel
theorem dX5_fold_18 : decode cX5_fold 18 = .ok (.invokevirtual 48, 3) := by decide +kernel
theorem dX5_fold_21 : decode cX5_fold 21 = .ok (.ifCond .eq 5, 3) := by decide +kernel
theorem dX5_fold_24 : decode cX5_fold 24 = .ok (.iconst 0, 1) := by decide +kernel
theorem dX5_fold_25 : decode cX5_fold 25 = .ok (.ireturn, 1) := by decide +kernel
theorem dX5_fold_26 : decode cX5_fold 26 = .ok (.iconst 0, 1) := by decide +kernel
theorem dX5_fold_27 : decode cX5_fold 27 = .ok (.istore 5, 2) := by decide +kernel
theorem dX5_fold_29 : decode cX5_fold 29 = .ok (.iload 5, 2) := by decide +kernel
theorem dX5_fold_31 : decode cX5_fold 31 = .ok (.aload_n 0, 1) := by decide +kernel
theorem dX5_fold_32 : decode cX5_fold 32 = .ok (.getfield 10, 3) := by decide +kernel
theorem dX5_fold_35 : decode cX5_fold 35 = .ok (.getfield 77, 3) := by decide +kernel
theorem dX5_fold_38 : decode cX5_fold 38 = .ok (.if_icmp .ge 37, 3) := by decide +kernel
theorem dX5_fold_41 : decode cX5_fold 41 = .ok (.iload 5, 2) := by decide +kernel
theorem dX5_fold_43 : decode cX5_fold 43 = .ok (.iload_n 1, 1) := by decide +kernel
theorem dX5_fold_44 : decode cX5_fold 44 = .ok (.irem, 1) := by decide +kernel
theorem dX5_fold_45 : decode cX5_fold 45 = .ok (.iload_n 3, 1) := by decide +kernel
theorem dX5_fold_46 : decode cX5_fold 46 = .ok (.if_icmp .ne 23, 3) := by decide +kernel
theorem dX5_fold_49 : decode cX5_fold 49 = .ok (.iload 5, 2) := by decide +kernel
theorem dX5_fold_51 : decode cX5_fold 51 = .ok (.iload_n 2, 1) := by decide +kernel
theorem dX5_fold_52 : decode cX5_fold 52 = .ok (.irem, 1) := by decide +kernel
theorem dX5_fold_53 : decode cX5_fold 53 = .ok (.iload 4, 2) := by decide +kernel
theorem dX5_fold_55 : decode cX5_fold 55 = .ok (.if_icmp .ne 14, 3) := by decide +kernel
theorem dX5_fold_58 : decode cX5_fold 58 = .ok (.aload_n 0, 1) := by decide +kernel
theorem dX5_fold_59 : decode cX5_fold 59 = .ok (.getfield 10, 3) := by decide +kernel
theorem dX5_fold_62 : decode cX5_fold 62 = .ok (.iconst 0, 1) := by decide +kernel
theorem dX5_fold_63 : decode cX5_fold 63 = .ok (.iload 5, 2) := by decide +kernel
theorem dX5_fold_65 : decode cX5_fold 65 = .ok (.invokevirtual 111, 3) := by decide +kernel
theorem dX5_fold_68 : decode cX5_fold 68 = .ok (.ireturn, 1) := by decide +kernel
theorem dX5_fold_69 : decode cX5_fold 69 = .ok (.iinc 5 1, 3) := by decide +kernel
theorem dX5_fold_72 : decode cX5_fold 72 = .ok (.goto (-43), 3) := by decide +kernel
theorem dX5_fold_75 : decode cX5_fold 75 = .ok (.iconst 0, 1) := by decide +kernel
theorem dX5_fold_76 : decode cX5_fold 76 = .ok (.ireturn, 1) := by decide +kernel
theorem dX5_rests_0 : decode cX5_rests 0 = .ok (.aload_n 0, 1) := by decide +kernel
theorem dX5_rests_1 : decode cX5_rests 1 = .ok (.iload_n 1, 1) := by decide +kernel
theorem dX5_rests_2 : decode cX5_rests 2 = .ok (.invokestatic 146, 3) := by decide +kernel
theorem dX5_rests_5 : decode cX5_rests 5 = .ok (.ifCond .eq 7, 3) := by decide +kernel
theorem dX5_rests_8 : decode cX5_rests 8 = .ok (.iconst 0, 1) := by decide +kernel
theorem dX5_rests_9 : decode cX5_rests 9 = .ok (.goto 4, 3) := by decide +kernel
theorem dX5_rests_12 : decode cX5_rests 12 = .ok (.iconst 1, 1) := by decide +kernel
theorem dX5_rests_13 : decode cX5_rests 13 = .ok (.invokevirtual 48, 3) := by decide +kernel
theorem dX5_rests_16 : decode cX5_rests 16 = .ok (.ifCond .eq 5, 3) := by decide +kernel
theorem dX5_rests_19 : decode cX5_rests 19 = .ok (.iconst (-1), 1) := by decide +kernel
theorem dX5_rests_20 : decode cX5_rests 20 = .ok (.ireturn, 1) := by decide +kernel
theorem dX5_rests_21 : decode cX5_rests 21 = .ok (.aload_n 0, 1) := by decide +kernel
theorem dX5_rests_22 : decode cX5_rests 22 = .ok (.iload_n 1, 1) := by decide +kernel
theorem dX5_rests_23 : decode cX5_rests 23 = .ok (.invokevirtual 52, 3) := by decide +kernel
theorem dX5_rests_26 : decode cX5_rests 26 = .ok (.iconst 0, 1) := by decide +kernel
theorem dX5_rests_27 : decode cX5_rests 27 = .ok (.istore_n 2, 1) := by decide +kernel
theorem dX5_rests_28 : decode cX5_rests 28 = .ok (.iload_n 2, 1) := by decide +kernel
theorem dX5_rests_29 : decode cX5_rests 29 = .ok (.iload_n 1, 1) := by decide +kernel
theorem dX5_rests_30 : decode cX5_rests 30 = .ok (.if_icmp .ge 31, 3) := by decide +kernel
theorem dX5_rests_33 : decode cX5_rests 33 = .ok (.aload_n 0, 1) := by decide +kernel
theorem dX5_rests_34 : decode cX5_rests 34 = .ok (.getfield 10, 3) := by decide +kernel
theorem dX5_rests_37 : decode cX5_rests 37 = .ok (.iconst 0, 1) := by decide +kernel
theorem dX5_rests_38 : decode cX5_rests 38 = .ok (.iload_n 2, 1) := by decide +kernel
theorem dX5_rests_39 : decode cX5_rests 39 = .ok (.iload_n 2, 1) := by decide +kernel
theorem dX5_rests_40 : decode cX5_rests 40 = .ok (.iload_n 1, 1) := by decide +kernel
theorem dX5_rests_41 : decode cX5_rests 41 = .ok (.invokestatic 149, 3) := by decide +kernel
theorem dX5_rests_44 : decode cX5_rests 44 = .ok (.ifCond .eq 7, 3) := by decide +kernel
theorem dX5_rests_47 : decode cX5_rests 47 = .ok (.iconst 1, 1) := by decide +kernel
theorem dX5_rests_48 : decode cX5_rests 48 = .ok (.goto 4, 3) := by decide +kernel
theorem dX5_rests_51 : decode cX5_rests 51 = .ok (.iconst 0, 1) := by decide +kernel
theorem dX5_rests_52 : decode cX5_rests 52 = .ok (.invokevirtual 83, 3) := by decide +kernel
theorem dX5_rests_55 : decode cX5_rests 55 = .ok (.iinc 2 1, 3) := by decide +kernel
theorem dX5_rests_58 : decode cX5_rests 58 = .ok (.goto (-30), 3) := by decide +kernel
theorem dX5_rests_61 : decode cX5_rests 61 = .ok (.aload_n 0, 1) := by decide +kernel
theorem dX5_rests_62 : decode cX5_rests 62 = .ok (.getfield 10, 3) := by decide +kernel
theorem dX5_rests_65 : decode cX5_rests 65 = .ok (.iconst 0, 1) := by decide +kernel
theorem dX5_rests_66 : decode cX5_rests 66 = .ok (.iconst 1, 1) := by decide +kernel
theorem dX5_rests_67 : decode cX5_rests 67 = .ok (.invokevirtual 116, 3) := by decide +kernel
theorem dX5_rests_70 : decode cX5_rests 70 = .ok (.ireturn, 1) := by decide +kernel
theorem dX5_twins_0 : decode cX5_twins 0 = .ok (.aload_n 0, 1) := by decide +kernel
theorem dX5_twins_1 : decode cX5_twins 1 = .ok (.iload_n 1, 1) := by decide +kernel
theorem dX5_twins_2 : decode cX5_twins 2 = .ok (.invokestatic 152, 3) := by decide +kernel
theorem dX5_twins_5 : decode cX5_twins 5 = .ok (.ifCond .eq 7, 3) := by decide +kernel
theorem dX5_twins_8 : decode cX5_twins 8 = .ok (.iconst 0, 1) := by decide +kernel
theorem dX5_twins_9 : decode cX5_twins 9 = .ok (.goto 4, 3) := by decide +kernel
theorem dX5_twins_12 : decode cX5_twins 12 = .ok (.iconst 1, 1) := by decide +kernel
theorem dX5_twins_13 : decode cX5_twins 13 = .ok (.invokevirtual 48, 3) := by decide +kernel
theorem dX5_twins_16 : decode cX5_twins 16 = .ok (.ifCond .eq 5, 3) := by decide +kernel
theorem dX5_twins_19 : decode cX5_twins 19 = .ok (.iconst (-1), 1) := by decide +kernel
theorem dX5_twins_20 : decode cX5_twins 20 = .ok (.ireturn, 1) := by decide +kernel
theorem dX5_twins_21 : decode cX5_twins 21 = .ok (.iload_n 1, 1) := by decide +kernel
theorem dX5_twins_22 : decode cX5_twins 22 = .ok (.iconst 2, 1) := by decide +kernel
theorem dX5_twins_23 : decode cX5_twins 23 = .ok (.iadd, 1) := by decide +kernel
theorem dX5_twins_24 : decode cX5_twins 24 = .ok (.istore_n 2, 1) := by decide +kernel
theorem dX5_twins_25 : decode cX5_twins 25 = .ok (.aload_n 0, 1) := by decide +kernel
theorem dX5_twins_26 : decode cX5_twins 26 = .ok (.iload_n 1, 1) := by decide +kernel
theorem dX5_twins_27 : decode cX5_twins 27 = .ok (.iload_n 2, 1) := by decide +kernel
theorem dX5_twins_28 : decode cX5_twins 28 = .ok (.imul, 1) := by decide +kernel
theorem dX5_twins_29 : decode cX5_twins 29 = .ok (.invokevirtual 52, 3) := by decide +kernel
theorem dX5_twins_32 : decode cX5_twins 32 = .ok (.iconst 0, 1) := by decide +kernel
theorem dX5_twins_33 : decode cX5_twins 33 = .ok (.istore_n 3, 1) := by decide +kernel
theorem dX5_twins_34 : decode cX5_twins 34 = .ok (.iload_n 3, 1) := by decide +kernel
theorem dX5_twins_35 : decode cX5_twins 35 = .ok (.iload_n 1, 1) := by decide +kernel
theorem dX5_twins_36 : decode cX5_twins 36 = .ok (.iload_n 2, 1) := by decide +kernel
theorem dX5_twins_37 : decode cX5_twins 37 = .ok (.imul, 1) := by decide +kernel
theorem dX5_twins_38 : decode cX5_twins 38 = .ok (.if_icmp .ge 60, 3) := by decide +kernel
theorem dX5_twins_41 : decode cX5_twins 41 = .ok (.iload_n 3, 1) := by decide +kernel
theorem dX5_twins_42 : decode cX5_twins 42 = .ok (.iload_n 1, 1) := by decide +kernel
theorem dX5_twins_43 : decode cX5_twins 43 = .ok (.irem, 1) := by decide +kernel
theorem dX5_twins_44 : decode cX5_twins 44 = .ok (.ifCond .eq 20, 3) := by decide +kernel
theorem dX5_twins_47 : decode cX5_twins 47 = .ok (.iload_n 3, 1) := by decide +kernel
theorem dX5_twins_48 : decode cX5_twins 48 = .ok (.iload_n 1, 1) := by decide +kernel
theorem dX5_twins_49 : decode cX5_twins 49 = .ok (.invokestatic 149, 3) := by decide +kernel
theorem dX5_twins_52 : decode cX5_twins 52 = .ok (.iload_n 3, 1) := by decide +kernel
theorem dX5_twins_53 : decode cX5_twins 53 = .ok (.iload_n 2, 1) := by decide +kernel
theorem dX5_twins_54 : decode cX5_twins 54 = .ok (.invokestatic 149, 3) := by decide +kernel
theorem dX5_twins_57 : decode cX5_twins 57 = .ok (.if_icmp .ne 7, 3) := by decide +kernel
theorem dX5_twins_60 : decode cX5_twins 60 = .ok (.iconst 1, 1) := by decide +kernel
theorem dX5_twins_61 : decode cX5_twins 61 = .ok (.goto 4, 3) := by decide +kernel
theorem dX5_twins_64 : decode cX5_twins 64 = .ok (.iconst 0, 1) := by decide +kernel
theorem dX5_twins_65 : decode cX5_twins 65 = .ok (.istore 4, 2) := by decide +kernel
theorem dX5_twins_67 : decode cX5_twins 67 = .ok (.aload_n 0, 1) := by decide +kernel
theorem dX5_twins_68 : decode cX5_twins 68 = .ok (.getfield 10, 3) := by decide +kernel
theorem dX5_twins_71 : decode cX5_twins 71 = .ok (.iconst 0, 1) := by decide +kernel
theorem dX5_twins_72 : decode cX5_twins 72 = .ok (.iload_n 3, 1) := by decide +kernel
theorem dX5_twins_73 : decode cX5_twins 73 = .ok (.iload_n 3, 1) := by decide +kernel
theorem dX5_twins_74 : decode cX5_twins 74 = .ok (.iload_n 2, 1) := by decide +kernel
theorem dX5_twins_75 : decode cX5_twins 75 = .ok (.irem, 1) := by decide +kernel
theorem dX5_twins_76 : decode cX5_twins 76 = .ok (.ifCond .eq 8, 3) := by decide +kernel
theorem dX5_twins_79 : decode cX5_twins 79 = .ok (.iload 4, 2) := by decide +kernel
theorem dX5_twins_81 : decode cX5_twins 81 = .ok (.ifCond .eq 7, 3) := by decide +kernel
theorem dX5_twins_84 : decode cX5_twins 84 = .ok (.iconst 1, 1) := by decide +kernel
theorem dX5_twins_85 : decode cX5_twins 85 = .ok (.goto 4, 3) := by decide +kernel
theorem dX5_twins_88 : decode cX5_twins 88 = .ok (.iconst 0, 1) := by decide +kernel
theorem dX5_twins_89 : decode cX5_twins 89 = .ok (.invokevirtual 83, 3) := by decide +kernel
theorem dX5_twins_92 : decode cX5_twins 92 = .ok (.iinc 3 1, 3) := by decide +kernel
theorem dX5_twins_95 : decode cX5_twins 95 = .ok (.goto (-61), 3) := by decide +kernel
theorem dX5_twins_98 : decode cX5_twins 98 = .ok (.aload_n 0, 1) := by decide +kernel
theorem dX5_twins_99 : decode cX5_twins 99 = .ok (.getfield 10, 3) := by decide +kernel
theorem dX5_twins_102 : decode cX5_twins 102 = .ok (.iconst 0, 1) := by decide +kernel
theorem dX5_twins_103 : decode cX5_twins 103 = .ok (.iconst 1, 1) := by decide +kernel
theorem dX5_twins_104 : decode cX5_twins 104 = .ok (.invokevirtual 116, 3) := by decide +kernel
theorem dX5_twins_107 : decode cX5_twins 107 = .ok (.ireturn, 1) := by decide +kernel
theorem dX5_shift_0 : decode cX5_shift 0 = .ok (.aload_n 0, 1) := by decide +kernel
theorem dX5_shift_1 : decode cX5_shift 1 = .ok (.iload_n 1, 1) := by decide +kernel
theorem dX5_shift_2 : decode cX5_shift 2 = .ok (.iconst 2, 1) := by decide +kernel
theorem dX5_shift_3 : decode cX5_shift 3 = .ok (.if_icmp .lt 8, 3) := by decide +kernel
theorem dX5_shift_6 : decode cX5_shift 6 = .ok (.iload_n 1, 1) := by decide +kernel
theorem dX5_shift_7 : decode cX5_shift 7 = .ok (.iconst 5, 1) := by decide +kernel
theorem dX5_shift_8 : decode cX5_shift 8 = .ok (.if_icmp .le 7, 3) := by decide +kernel
theorem dX5_shift_11 : decode cX5_shift 11 = .ok (.iconst 1, 1) := by decide +kernel
theorem dX5_shift_12 : decode cX5_shift 12 = .ok (.goto 4, 3) := by decide +kernel
theorem dX5_shift_15 : decode cX5_shift 15 = .ok (.iconst 0, 1) := by decide +kernel
theorem dX5_shift_16 : decode cX5_shift 16 = .ok (.invokevirtual 48, 3) := by decide +kernel
theorem dX5_shift_19 : decode cX5_shift 19 = .ok (.ifCond .eq 5, 3) := by decide +kernel
theorem dX5_shift_22 : decode cX5_shift 22 = .ok (.iconst (-1), 1) := by decide +kernel
theorem dX5_shift_23 : decode cX5_shift 23 = .ok (.ireturn, 1) := by decide +kernel
theorem dX5_shift_24 : decode cX5_shift 24 = .ok (.iconst 1, 1) := by decide +kernel
theorem dX5_shift_25 : decode cX5_shift 25 = .ok (.iload_n 1, 1) := by decide +kernel
theorem dX5_shift_26 : decode cX5_shift 26 = .ok (.ishl, 1) := by decide +kernel
theorem dX5_shift_27 : decode cX5_shift 27 = .ok (.iconst 1, 1) := by decide +kernel
theorem dX5_shift_28 : decode cX5_shift 28 = .ok (.isub, 1) := by decide +kernel
theorem dX5_shift_29 : decode cX5_shift 29 = .ok (.istore_n 2, 1) := by decide +kernel
theorem dX5_shift_30 : decode cX5_shift 30 = .ok (.iload_n 1, 1) := by decide +kernel
theorem dX5_shift_31 : decode cX5_shift 31 = .ok (.iload_n 2, 1) := by decide +kernel
theorem dX5_shift_32 : decode cX5_shift 32 = .ok (.invokestatic 155, 3) := by decide +kernel
theorem dX5_shift_35 : decode cX5_shift 35 = .ok (.istore_n 3, 1) := by decide +kernel
theorem dX5_shift_36 : decode cX5_shift 36 = .ok (.aload_n 0, 1) := by decide +kernel
theorem dX5_shift_37 : decode cX5_shift 37 = .ok (.iload_n 2, 1) := by decide +kernel
theorem dX5_shift_38 : decode cX5_shift 38 = .ok (.invokevirtual 52, 3) := by decide +kernel
theorem dX5_shift_41 : decode cX5_shift 41 = .ok (.iconst 1, 1) := by decide +kernel
theorem dX5_shift_42 : decode cX5_shift 42 = .ok (.iload_n 1, 1) := by decide +kernel
theorem dX5_shift_43 : decode cX5_shift 43 = .ok (.iconst 1, 1) := by decide +kernel
theorem dX5_shift_44 : decode cX5_shift 44 = .ok (.isub, 1) := by decide +kernel
theorem dX5_shift_45 : decode cX5_shift 45 = .ok (.ishl, 1) := by decide +kernel
theorem dX5_shift_46 : decode cX5_shift 46 = .ok (.istore 4, 2) := by decide +kernel
theorem dX5_shift_48 : decode cX5_shift 48 = .ok (.iconst 0, 1) := by decide +kernel
theorem dX5_shift_49 : decode cX5_shift 49 = .ok (.istore 5, 2) := by decide +kernel
theorem dX5_shift_51 : decode cX5_shift 51 = .ok (.iload 5, 2) := by decide +kernel
theorem dX5_shift_53 : decode cX5_shift 53 = .ok (.iload_n 2, 1) := by decide +kernel
theorem dX5_shift_54 : decode cX5_shift 54 = .ok (.if_icmp .ge 32, 3) := by decide +kernel
theorem dX5_shift_57 : decode cX5_shift 57 = .ok (.aload_n 0, 1) := by decide +kernel
theorem dX5_shift_58 : decode cX5_shift 58 = .ok (.getfield 10, 3) := by decide +kernel
theorem dX5_shift_61 : decode cX5_shift 61 = .ok (.iconst 0, 1) := by decide +kernel
theorem dX5_shift_62 : decode cX5_shift 62 = .ok (.iload 5, 2) := by decide +kernel
theorem dX5_shift_64 : decode cX5_shift 64 = .ok (.iload 4, 2) := by decide +kernel
theorem dX5_shift_66 : decode cX5_shift 66 = .ok (.iconst 1, 1) := by decide +kernel
theorem dX5_shift_67 : decode cX5_shift 67 = .ok (.iand, 1) := by decide +kernel
theorem dX5_shift_68 : decode cX5_shift 68 = .ok (.invokevirtual 83, 3) := by decide +kernel
theorem dX5_shift_71 : decode cX5_shift 71 = .ok (.iload 4, 2) := by decide +kernel
theorem dX5_shift_73 : decode cX5_shift 73 = .ok (.iload_n 3, 1) := by decide +kernel
theorem dX5_shift_74 : decode cX5_shift 74 = .ok (.iload_n 1, 1) := by decide +kernel
theorem dX5_shift_75 : decode cX5_shift 75 = .ok (.invokestatic 158, 3) := by decide +kernel
theorem dX5_shift_78 : decode cX5_shift 78 = .ok (.istore 4, 2) := by decide +kernel
theorem dX5_shift_80 : decode cX5_shift 80 = .ok (.iinc 5 1, 3) := by decide +kernel
theorem dX5_shift_83 : decode cX5_shift 83 = .ok (.goto (-32), 3) := by decide +kernel
theorem dX5_shift_86 : decode cX5_shift 86 = .ok (.iload_n 3, 1) := by decide +kernel
theorem dX5_shift_87 : decode cX5_shift 87 = .ok (.ireturn, 1) := by decide +kernel
theorem dX5_undo_0 : decode cX5_undo 0 = .ok (.aload_n 0, 1) := by decide +kernel
theorem dX5_undo_1 : decode cX5_undo 1 = .ok (.aload_n 0, 1) := by decide +kernel
theorem dX5_undo_2 : decode cX5_undo 2 = .ok (.invokevirtual 162, 3) := by decide +kernel
theorem dX5_undo_5 : decode cX5_undo 5 = .ok (.invokevirtual 48, 3) := by decide +kernel
theorem dX5_undo_8 : decode cX5_undo 8 = .ok (.ifCond .eq 7, 3) := by decide +kernel
theorem dX5_undo_11 : decode cX5_undo 11 = .ok (.ldc2_w 165, 3) := by decide +kernel
theorem dX5_undo_14 : decode cX5_undo 14 = .ok (.lreturn, 1) := by decide +kernel
theorem dX5_undo_15 : decode cX5_undo 15 = .ok (.aload_n 0, 1) := by decide +kernel
theorem dX5_undo_16 : decode cX5_undo 16 = .ok (.getfield 26, 3) := by decide +kernel
theorem dX5_undo_19 : decode cX5_undo 19 = .ok (.aload_n 0, 1) := by decide +kernel
theorem dX5_undo_20 : decode cX5_undo 20 = .ok (.getfield 26, 3) := by decide +kernel
theorem dX5_undo_23 : decode cX5_undo 23 = .ok (.aload_n 0, 1) := by decide +kernel
theorem dX5_undo_24 : decode cX5_undo 24 = .ok (.getfield 10, 3) := by decide +kernel
theorem dX5_undo_27 : decode cX5_undo 27 = .ok (.invokevirtual 167, 3) := by decide +kernel
theorem dX5_undo_30 : decode cX5_undo 30 = .ok (.putfield 138, 3) := by decide +kernel
theorem dX5_undo_33 : decode cX5_undo 33 = .ok (.aload_n 0, 1) := by decide +kernel
theorem dX5_undo_34 : decode cX5_undo 34 = .ok (.getfield 26, 3) := by decide +kernel
theorem dX5_undo_37 : decode cX5_undo 37 = .ok (.getfield 138, 3) := by decide +kernel
theorem dX5_undo_40 : decode cX5_undo 40 = .ok (.ifCond .eq 13, 3) := by decide +kernel
theorem dX5_undo_43 : decode cX5_undo 43 = .ok (.aload_n 0, 1) := by decide +kernel
theorem dX5_undo_44 : decode cX5_undo 44 = .ok (.getfield 26, 3) := by decide +kernel
theorem dX5_undo_47 : decode cX5_undo 47 = .ok (.getfield 171, 3) := by decide +kernel
theorem dX5_undo_50 : decode cX5_undo 50 = .ok (.goto 4, 3) := by decide +kernel
theorem dX5_undo_53 : decode cX5_undo 53 = .ok (.lconst 0, 1) := by decide +kernel
theorem dX5_undo_54 : decode cX5_undo 54 = .ok (.lreturn, 1) := by decide +kernel
theorem dX5_back_0 : decode cX5_back 0 = .ok (.aload_n 0, 1) := by decide +kernel
theorem dX5_back_1 : decode cX5_back 1 = .ok (.aload_n 0, 1) := by decide +kernel
theorem dX5_back_2 : decode cX5_back 2 = .ok (.getfield 10, 3) := by decide +kernel
theorem dX5_back_5 : decode cX5_back 5 = .ok (.iload_n 1, 1) := by decide +kernel
theorem dX5_back_6 : decode cX5_back 6 = .ok (.invokevirtual 96, 3) := by decide +kernel
theorem dX5_back_9 : decode cX5_back 9 = .ok (.ifCond .ne 7, 3) := by decide +kernel
theorem dX5_back_12 : decode cX5_back 12 = .ok (.iconst 1, 1) := by decide +kernel
theorem dX5_back_13 : decode cX5_back 13 = .ok (.goto 18, 3) := by decide +kernel
theorem dX5_back_16 : decode cX5_back 16 = .ok (.aload_n 0, 1) := by decide +kernel
theorem dX5_back_17 : decode cX5_back 17 = .ok (.getfield 26, 3) := by decide +kernel
theorem dX5_back_20 : decode cX5_back 20 = .ok (.getfield 138, 3) := by decide +kernel
theorem dX5_back_23 : decode cX5_back 23 = .ok (.ifCond .eq 7, 3) := by decide +kernel
theorem dX5_back_26 : decode cX5_back 26 = .ok (.iconst 0, 1) := by decide +kernel
theorem dX5_back_27 : decode cX5_back 27 = .ok (.goto 4, 3) := by decide +kernel
theorem dX5_back_30 : decode cX5_back 30 = .ok (.iconst 2, 1) := by decide +kernel
theorem dX5_back_31 : decode cX5_back 31 = .ok (.invokevirtual 48, 3) := by decide +kernel
theorem dX5_back_34 : decode cX5_back 34 = .ok (.ifCond .eq 5, 3) := by decide +kernel
theorem dX5_back_37 : decode cX5_back 37 = .ok (.lconst 0, 1) := by decide +kernel
theorem dX5_back_38 : decode cX5_back 38 = .ok (.lreturn, 1) := by decide +kernel
theorem dX5_back_39 : decode cX5_back 39 = .ok (.aload_n 0, 1) := by decide +kernel
theorem dX5_back_40 : decode cX5_back 40 = .ok (.getfield 26, 3) := by decide +kernel
theorem dX5_back_43 : decode cX5_back 43 = .ok (.iload_n 1, 1) := by decide +kernel
theorem dX5_back_44 : decode cX5_back 44 = .ok (.invokevirtual 175, 3) := by decide +kernel
theorem dX5_back_47 : decode cX5_back 47 = .ok (.lreturn, 1) := by decide +kernel
theorem dX5_noise_0 : decode cX5_noise 0 = .ok (.aload_n 0, 1) := by decide +kernel
theorem dX5_noise_1 : decode cX5_noise 1 = .ok (.iload_n 1, 1) := by decide +kernel
theorem dX5_noise_2 : decode cX5_noise 2 = .ok (.ifCond .lt 8, 3) := by decide +kernel
theorem dX5_noise_5 : decode cX5_noise 5 = .ok (.iload_n 1, 1) := by decide +kernel
theorem dX5_noise_6 : decode cX5_noise 6 = .ok (.iconst 1, 1) := by decide +kernel
theorem dX5_noise_7 : decode cX5_noise 7 = .ok (.if_icmp .le 7, 3) := by decide +kernel
theorem dX5_noise_10 : decode cX5_noise 10 = .ok (.iconst 1, 1) := by decide +kernel
theorem dX5_noise_11 : decode cX5_noise 11 = .ok (.goto 18, 3) := by decide +kernel
theorem dX5_noise_14 : decode cX5_noise 14 = .ok (.aload_n 0, 1) := by decide +kernel
theorem dX5_noise_15 : decode cX5_noise 15 = .ok (.getfield 26, 3) := by decide +kernel
theorem dX5_noise_18 : decode cX5_noise 18 = .ok (.getfield 138, 3) := by decide +kernel
theorem dX5_noise_21 : decode cX5_noise 21 = .ok (.ifCond .eq 7, 3) := by decide +kernel
theorem dX5_noise_24 : decode cX5_noise 24 = .ok (.iconst 0, 1) := by decide +kernel
theorem dX5_noise_25 : decode cX5_noise 25 = .ok (.goto 4, 3) := by decide +kernel
theorem dX5_noise_28 : decode cX5_noise 28 = .ok (.iconst 2, 1) := by decide +kernel
theorem dX5_noise_29 : decode cX5_noise 29 = .ok (.invokevirtual 48, 3) := by decide +kernel
theorem dX5_noise_32 : decode cX5_noise 32 = .ok (.ifCond .eq 5, 3) := by decide +kernel
theorem dX5_noise_35 : decode cX5_noise 35 = .ok (.lconst 0, 1) := by decide +kernel
theorem dX5_noise_36 : decode cX5_noise 36 = .ok (.lreturn, 1) := by decide +kernel
theorem dX5_noise_37 : decode cX5_noise 37 = .ok (.aload_n 0, 1) := by decide +kernel
theorem dX5_noise_38 : decode cX5_noise 38 = .ok (.getfield 26, 3) := by decide +kernel
theorem dX5_noise_41 : decode cX5_noise 41 = .ok (.iload_n 1, 1) := by decide +kernel
theorem dX5_noise_42 : decode cX5_noise 42 = .ok (.ifCond .ne 7, 3) := by decide +kernel
theorem dX5_noise_45 : decode cX5_noise 45 = .ok (.iconst 1, 1) := by decide +kernel
theorem dX5_noise_46 : decode cX5_noise 46 = .ok (.goto 4, 3) := by decide +kernel
theorem dX5_noise_49 : decode cX5_noise 49 = .ok (.iconst 0, 1) := by decide +kernel
theorem dX5_noise_50 : decode cX5_noise 50 = .ok (.aload_n 0, 1) := by decide +kernel
theorem dX5_noise_51 : decode cX5_noise 51 = .ok (.getfield 10, 3) := by decide +kernel
theorem dX5_noise_54 : decode cX5_noise 54 = .ok (.getfield 77, 3) := by decide +kernel
theorem dX5_noise_57 : decode cX5_noise 57 = .ok (.invokevirtual 179, 3) := by decide +kernel
theorem dX5_noise_60 : decode cX5_noise 60 = .ok (.lreturn, 1) := by decide +kernel
theorem dX5_rank_0 : decode cX5_rank 0 = .ok (.aload_n 0, 1) := by decide +kernel
theorem dX5_rank_1 : decode cX5_rank 1 = .ok (.aload_n 0, 1) := by decide +kernel
theorem dX5_rank_2 : decode cX5_rank 2 = .ok (.invokevirtual 162, 3) := by decide +kernel
theorem dX5_rank_5 : decode cX5_rank 5 = .ok (.invokevirtual 48, 3) := by decide +kernel
theorem dX5_rank_8 : decode cX5_rank 8 = .ok (.ifCond .eq 5, 3) := by decide +kernel
theorem dX5_rank_11 : decode cX5_rank 11 = .ok (.iconst (-1), 1) := by decide +kernel
theorem dX5_rank_12 : decode cX5_rank 12 = .ok (.ireturn, 1) := by decide +kernel
theorem dX5_rank_13 : decode cX5_rank 13 = .ok (.aload_n 0, 1) := by decide +kernel
theorem dX5_rank_14 : decode cX5_rank 14 = .ok (.getfield 26, 3) := by decide +kernel
theorem dX5_rank_17 : decode cX5_rank 17 = .ok (.aload_n 0, 1) := by decide +kernel
theorem dX5_rank_18 : decode cX5_rank 18 = .ok (.getfield 10, 3) := by decide +kernel
theorem dX5_rank_21 : decode cX5_rank 21 = .ok (.invokevirtual 183, 3) := by decide +kernel
theorem dX5_rank_24 : decode cX5_rank 24 = .ok (.ireturn, 1) := by decide +kernel
theorem dX5_lost_0 : decode cX5_lost 0 = .ok (.aload_n 0, 1) := by decide +kernel
theorem dX5_lost_1 : decode cX5_lost 1 = .ok (.aload_n 0, 1) := by decide +kernel
theorem dX5_lost_2 : decode cX5_lost 2 = .ok (.invokevirtual 162, 3) := by decide +kernel
theorem dX5_lost_5 : decode cX5_lost 5 = .ok (.invokevirtual 48, 3) := by decide +kernel
theorem dX5_lost_8 : decode cX5_lost 8 = .ok (.ifCond .eq 5, 3) := by decide +kernel
theorem dX5_lost_11 : decode cX5_lost 11 = .ok (.iconst (-1), 1) := by decide +kernel
theorem dX5_lost_12 : decode cX5_lost 12 = .ok (.ireturn, 1) := by decide +kernel
theorem dX5_lost_13 : decode cX5_lost 13 = .ok (.aload_n 0, 1) := by decide +kernel
theorem dX5_lost_14 : decode cX5_lost 14 = .ok (.getfield 26, 3) := by decide +kernel
theorem dX5_lost_17 : decode cX5_lost 17 = .ok (.aload_n 0, 1) := by decide +kernel
theorem dX5_lost_18 : decode cX5_lost 18 = .ok (.getfield 10, 3) := by decide +kernel
theorem dX5_lost_21 : decode cX5_lost 21 = .ok (.invokevirtual 183, 3) := by decide +kernel
theorem dX5_lost_24 : decode cX5_lost 24 = .ok (.istore_n 1, 1) := by decide +kernel
theorem dX5_lost_25 : decode cX5_lost 25 = .ok (.iload_n 1, 1) := by decide +kernel
theorem dX5_lost_26 : decode cX5_lost 26 = .ok (.aload_n 0, 1) := by decide +kernel
theorem dX5_lost_27 : decode cX5_lost 27 = .ok (.getfield 10, 3) := by decide +kernel
theorem dX5_lost_30 : decode cX5_lost 30 = .ok (.getfield 77, 3) := by decide +kernel
theorem dX5_lost_33 : decode cX5_lost 33 = .ok (.if_icmp .lt 5, 3) := by decide +kernel
theorem dX5_lost_36 : decode cX5_lost 36 = .ok (.iconst (-1), 1) := by decide +kernel
theorem dX5_lost_37 : decode cX5_lost 37 = .ok (.ireturn, 1) := by decide +kernel
theorem dX5_lost_38 : decode cX5_lost 38 = .ok (.aload_n 0, 1) := by decide +kernel
theorem dX5_lost_39 : decode cX5_lost 39 = .ok (.getfield 26, 3) := by decide +kernel
theorem dX5_lost_42 : decode cX5_lost 42 = .ok (.aload_n 0, 1) := by decide +kernel
theorem dX5_lost_43 : decode cX5_lost 43 = .ok (.getfield 10, 3) := by decide +kernel
theorem dX5_lost_46 : decode cX5_lost 46 = .ok (.iload_n 1, 1) := by decide +kernel
theorem dX5_lost_47 : decode cX5_lost 47 = .ok (.invokevirtual 187, 3) := by decide +kernel
theorem dX5_lost_50 : decode cX5_lost 50 = .ok (.iload_n 1, 1) := by decide +kernel
theorem dX5_lost_51 : decode cX5_lost 51 = .ok (.ireturn, 1) := by decide +kernel
theorem dX5_solve_0 : decode cX5_solve 0 = .ok (.aload_n 0, 1) := by decide +kernel
theorem dX5_solve_1 : decode cX5_solve 1 = .ok (.getfield 10, 3) := by decide +kernel
theorem dX5_solve_4 : decode cX5_solve 4 = .ok (.iconst 2, 1) := by decide +kernel
theorem dX5_solve_5 : decode cX5_solve 5 = .ok (.ldc 103, 2) := by decide +kernel
theorem dX5_solve_7 : decode cX5_solve 7 = .ok (.invokevirtual 116, 3) := by decide +kernel
theorem dX5_solve_10 : decode cX5_solve 10 = .ok (.ifCond .le 7, 3) := by decide +kernel
theorem dX5_solve_13 : decode cX5_solve 13 = .ok (.iconst 1, 1) := by decide +kernel
theorem dX5_solve_14 : decode cX5_solve 14 = .ok (.goto 4, 3) := by decide +kernel
theorem dX5_solve_17 : decode cX5_solve 17 = .ok (.iconst 0, 1) := by decide +kernel
theorem dX5_solve_18 : decode cX5_solve 18 = .ok (.istore_n 1, 1) := by decide +kernel
theorem dX5_solve_19 : decode cX5_solve 19 = .ok (.aload_n 0, 1) := by decide +kernel
theorem dX5_solve_20 : decode cX5_solve 20 = .ok (.iload_n 1, 1) := by decide +kernel
theorem dX5_solve_21 : decode cX5_solve 21 = .ok (.ifCond .eq 7, 3) := by decide +kernel
theorem dX5_solve_24 : decode cX5_solve 24 = .ok (.iconst 1, 1) := by decide +kernel
theorem dX5_solve_25 : decode cX5_solve 25 = .ok (.goto 7, 3) := by decide +kernel
theorem dX5_solve_28 : decode cX5_solve 28 = .ok (.aload_n 0, 1) := by decide +kernel
theorem dX5_solve_29 : decode cX5_solve 29 = .ok (.invokevirtual 162, 3) := by decide +kernel
theorem dX5_solve_32 : decode cX5_solve 32 = .ok (.invokevirtual 48, 3) := by decide +kernel
theorem dX5_solve_35 : decode cX5_solve 35 = .ok (.ifCond .eq 5, 3) := by decide +kernel
theorem dX5_solve_38 : decode cX5_solve 38 = .ok (.iconst (-1), 1) := by decide +kernel
theorem dX5_solve_39 : decode cX5_solve 39 = .ok (.ireturn, 1) := by decide +kernel
theorem dX5_solve_40 : decode cX5_solve 40 = .ok (.aload_n 0, 1) := by decide +kernel
theorem dX5_solve_41 : decode cX5_solve 41 = .ok (.getfield 26, 3) := by decide +kernel
theorem dX5_solve_44 : decode cX5_solve 44 = .ok (.aload_n 0, 1) := by decide +kernel
theorem dX5_solve_45 : decode cX5_solve 45 = .ok (.getfield 10, 3) := by decide +kernel
theorem dX5_solve_48 : decode cX5_solve 48 = .ok (.invokevirtual 167, 3) := by decide +kernel
theorem dX5_solve_51 : decode cX5_solve 51 = .ok (.ifCond .ne 5, 3) := by decide +kernel
theorem dX5_solve_54 : decode cX5_solve 54 = .ok (.iconst 0, 1) := by decide +kernel
theorem dX5_solve_55 : decode cX5_solve 55 = .ok (.ireturn, 1) := by decide +kernel
theorem dX5_solve_56 : decode cX5_solve 56 = .ok (.aload_n 0, 1) := by decide +kernel
theorem dX5_solve_57 : decode cX5_solve 57 = .ok (.getfield 26, 3) := by decide +kernel
theorem dX5_solve_60 : decode cX5_solve 60 = .ok (.aload_n 0, 1) := by decide +kernel
theorem dX5_solve_61 : decode cX5_solve 61 = .ok (.getfield 10, 3) := by decide +kernel
theorem dX5_solve_64 : decode cX5_solve 64 = .ok (.invokevirtual 191, 3) := by decide +kernel
theorem dX5_solve_67 : decode cX5_solve 67 = .ok (.ifCond .eq 7, 3) := by decide +kernel
theorem dX5_solve_70 : decode cX5_solve 70 = .ok (.iconst 1, 1) := by decide +kernel
theorem dX5_solve_71 : decode cX5_solve 71 = .ok (.goto 5, 3) := by decide +kernel
theorem dX5_solve_74 : decode cX5_solve 74 = .ok (.bipush (-2), 2) := by decide +kernel
theorem dX5_solve_76 : decode cX5_solve 76 = .ok (.ireturn, 1) := by decide +kernel
theorem dX5_sure_0 : decode cX5_sure 0 = .ok (.aload_n 0, 1) := by decide +kernel
theorem dX5_sure_1 : decode cX5_sure 1 = .ok (.aload_n 0, 1) := by decide +kernel
theorem dX5_sure_2 : decode cX5_sure 2 = .ok (.invokevirtual 162, 3) := by decide +kernel
theorem dX5_sure_5 : decode cX5_sure 5 = .ok (.invokevirtual 48, 3) := by decide +kernel
theorem dX5_sure_8 : decode cX5_sure 8 = .ok (.ifCond .eq 5, 3) := by decide +kernel
theorem dX5_sure_11 : decode cX5_sure 11 = .ok (.iconst (-1), 1) := by decide +kernel
theorem dX5_sure_12 : decode cX5_sure 12 = .ok (.ireturn, 1) := by decide +kernel
theorem dX5_sure_13 : decode cX5_sure 13 = .ok (.aload_n 0, 1) := by decide +kernel
theorem dX5_sure_14 : decode cX5_sure 14 = .ok (.getfield 10, 3) := by decide +kernel
theorem dX5_sure_17 : decode cX5_sure 17 = .ok (.iconst 2, 1) := by decide +kernel
theorem dX5_sure_18 : decode cX5_sure 18 = .ok (.ldc 103, 2) := by decide +kernel
theorem dX5_sure_20 : decode cX5_sure 20 = .ok (.invokevirtual 116, 3) := by decide +kernel
theorem dX5_sure_23 : decode cX5_sure 23 = .ok (.ifCond .ne 7, 3) := by decide +kernel
theorem dX5_sure_26 : decode cX5_sure 26 = .ok (.iconst 1, 1) := by decide +kernel
theorem dX5_sure_27 : decode cX5_sure 27 = .ok (.goto 4, 3) := by decide +kernel
theorem dX5_sure_30 : decode cX5_sure 30 = .ok (.iconst 0, 1) := by decide +kernel
theorem dX5_sure_31 : decode cX5_sure 31 = .ok (.istore_n 1, 1) := by decide +kernel
theorem dX5_sure_32 : decode cX5_sure 32 = .ok (.iload_n 1, 1) := by decide +kernel
theorem dX5_sure_33 : decode cX5_sure 33 = .ok (.ifCond .eq 28, 3) := by decide +kernel
theorem dX5_sure_36 : decode cX5_sure 36 = .ok (.aload_n 0, 1) := by decide +kernel
theorem dX5_sure_37 : decode cX5_sure 37 = .ok (.getfield 26, 3) := by decide +kernel
theorem dX5_sure_40 : decode cX5_sure 40 = .ok (.aload_n 0, 1) := by decide +kernel
theorem dX5_sure_41 : decode cX5_sure 41 = .ok (.getfield 10, 3) := by decide +kernel
theorem dX5_sure_44 : decode cX5_sure 44 = .ok (.invokevirtual 183, 3) := by decide +kernel
theorem dX5_sure_47 : decode cX5_sure 47 = .ok (.aload_n 0, 1) := by decide +kernel
theorem dX5_sure_48 : decode cX5_sure 48 = .ok (.getfield 10, 3) := by decide +kernel
theorem dX5_sure_51 : decode cX5_sure 51 = .ok (.getfield 77, 3) := by decide +kernel
theorem dX5_sure_54 : decode cX5_sure 54 = .ok (.if_icmp .ne 7, 3) := by decide +kernel
theorem dX5_sure_57 : decode cX5_sure 57 = .ok (.iconst 1, 1) := by decide +kernel
theorem dX5_sure_58 : decode cX5_sure 58 = .ok (.goto 4, 3) := by decide +kernel
theorem dX5_sure_61 : decode cX5_sure 61 = .ok (.iconst 0, 1) := by decide +kernel
theorem dX5_sure_62 : decode cX5_sure 62 = .ok (.ireturn, 1) := by decide +kernel
theorem dX5_points_0 : decode cX5_points 0 = .ok (.aload_n 0, 1) := by decide +kernel
theorem dX5_points_1 : decode cX5_points 1 = .ok (.iload_n 1, 1) := by decide +kernel
theorem dX5_points_2 : decode cX5_points 2 = .ok (.ifCond .lt 10, 3) := by decide +kernel
theorem dX5_points_5 : decode cX5_points 5 = .ok (.iload_n 1, 1) := by decide +kernel
theorem dX5_points_6 : decode cX5_points 6 = .ok (.sipush 1000, 3) := by decide +kernel
theorem dX5_points_9 : decode cX5_points 9 = .ok (.if_icmp .le 7, 3) := by decide +kernel
theorem dX5_points_12 : decode cX5_points 12 = .ok (.iconst 1, 1) := by decide +kernel
theorem dX5_points_13 : decode cX5_points 13 = .ok (.goto 4, 3) := by decide +kernel
theorem dX5_points_16 : decode cX5_points 16 = .ok (.iconst 0, 1) := by decide +kernel
theorem dX5_points_17 : decode cX5_points 17 = .ok (.invokevirtual 48, 3) := by decide +kernel
theorem dX5_points_20 : decode cX5_points 20 = .ok (.ifCond .eq 5, 3) := by decide +kernel
theorem dX5_points_23 : decode cX5_points 23 = .ok (.iconst (-1), 1) := by decide +kernel
theorem dX5_points_24 : decode cX5_points 24 = .ok (.ireturn, 1) := by decide +kernel
theorem dX5_points_25 : decode cX5_points 25 = .ok (.aload_n 0, 1) := by decide +kernel
theorem dX5_points_26 : decode cX5_points 26 = .ok (.getfield 33, 3) := by decide +kernel
theorem dX5_points_29 : decode cX5_points 29 = .ok (.aload_n 0, 1) := by decide +kernel
theorem dX5_points_30 : decode cX5_points 30 = .ok (.getfield 10, 3) := by decide +kernel
theorem dX5_points_33 : decode cX5_points 33 = .ok (.iload_n 1, 1) := by decide +kernel
theorem dX5_points_34 : decode cX5_points 34 = .ok (.invokevirtual 194, 3) := by decide +kernel
theorem dX5_points_37 : decode cX5_points 37 = .ok (.aload_n 0, 1) := by decide +kernel
theorem dX5_points_38 : decode cX5_points 38 = .ok (.getfield 33, 3) := by decide +kernel
theorem dX5_points_41 : decode cX5_points 41 = .ok (.getfield 126, 3) := by decide +kernel
theorem dX5_points_44 : decode cX5_points 44 = .ok (.ireturn, 1) := by decide +kernel
theorem dX5_point_0 : decode cX5_point 0 = .ok (.aload_n 0, 1) := by decide +kernel
theorem dX5_point_1 : decode cX5_point 1 = .ok (.iconst 0, 1) := by decide +kernel
theorem dX5_point_2 : decode cX5_point 2 = .ok (.putfield 44, 3) := by decide +kernel
theorem dX5_point_5 : decode cX5_point 5 = .ok (.aload_n 0, 1) := by decide +kernel
theorem dX5_point_6 : decode cX5_point 6 = .ok (.getfield 33, 3) := by decide +kernel
theorem dX5_point_9 : decode cX5_point 9 = .ok (.iload_n 1, 1) := by decide +kernel
theorem dX5_point_10 : decode cX5_point 10 = .ok (.iload_n 2, 1) := by decide +kernel
theorem dX5_point_11 : decode cX5_point 11 = .ok (.invokevirtual 197, 3) := by decide +kernel
theorem dX5_point_14 : decode cX5_point 14 = .ok (.ireturn, 1) := by decide +kernel
theorem dX5_table_0 : decode cX5_table 0 = .ok (.iload_n 1, 1) := by decide +kernel
theorem dX5_table_1 : decode cX5_table 1 = .ok (.ifCond .ne 16, 3) := by decide +kernel
theorem dX5_table_4 : decode cX5_table 4 = .ok (.iload_n 2, 1) := by decide +kernel
theorem dX5_table_5 : decode cX5_table 5 = .ok (.ifCond .lt 12, 3) := by decide +kernel
theorem dX5_table_8 : decode cX5_table 8 = .ok (.iload_n 2, 1) := by decide +kernel
theorem dX5_table_9 : decode cX5_table 9 = .ok (.iconst 5, 1) := by decide +kernel
theorem dX5_table_10 : decode cX5_table 10 = .ok (.if_icmp .gt 7, 3) := by decide +kernel
theorem dX5_table_13 : decode cX5_table 13 = .ok (.iconst 1, 1) := by decide +kernel
theorem dX5_table_14 : decode cX5_table 14 = .ok (.goto 4, 3) := by decide +kernel
theorem dX5_table_17 : decode cX5_table 17 = .ok (.iconst 0, 1) := by decide +kernel
theorem dX5_table_18 : decode cX5_table 18 = .ok (.istore_n 3, 1) := by decide +kernel
theorem dX5_table_19 : decode cX5_table 19 = .ok (.iload_n 1, 1) := by decide +kernel
theorem dX5_table_20 : decode cX5_table 20 = .ok (.iconst 1, 1) := by decide +kernel
theorem dX5_table_21 : decode cX5_table 21 = .ok (.if_icmp .ne 20, 3) := by decide +kernel
theorem dX5_table_24 : decode cX5_table 24 = .ok (.iload_n 2, 1) := by decide +kernel
theorem dX5_table_25 : decode cX5_table 25 = .ok (.invokestatic 146, 3) := by decide +kernel
theorem dX5_table_28 : decode cX5_table 28 = .ok (.ifCond .eq 13, 3) := by decide +kernel
theorem dX5_table_31 : decode cX5_table 31 = .ok (.iload_n 2, 1) := by decide +kernel
theorem dX5_table_32 : decode cX5_table 32 = .ok (.bipush 32, 2) := by decide +kernel
theorem dX5_table_34 : decode cX5_table 34 = .ok (.if_icmp .ge 7, 3) := by decide +kernel
theorem dX5_table_37 : decode cX5_table 37 = .ok (.iconst 1, 1) := by decide +kernel
theorem dX5_table_38 : decode cX5_table 38 = .ok (.goto 4, 3) := by decide +kernel
theorem dX5_table_41 : decode cX5_table 41 = .ok (.iconst 0, 1) := by decide +kernel
theorem dX5_table_42 : decode cX5_table 42 = .ok (.istore 4, 2) := by decide +kernel
theorem dX5_table_44 : decode cX5_table 44 = .ok (.aload_n 0, 1) := by decide +kernel
theorem dX5_table_45 : decode cX5_table 45 = .ok (.iload_n 3, 1) := by decide +kernel
theorem dX5_table_46 : decode cX5_table 46 = .ok (.ifCond .ne 8, 3) := by decide +kernel
theorem dX5_table_49 : decode cX5_table 49 = .ok (.iload 4, 2) := by decide +kernel
theorem dX5_table_51 : decode cX5_table 51 = .ok (.ifCond .eq 7, 3) := by decide +kernel
theorem dX5_table_54 : decode cX5_table 54 = .ok (.iconst 0, 1) := by decide +kernel
theorem dX5_table_55 : decode cX5_table 55 = .ok (.goto 4, 3) := by decide +kernel
theorem dX5_table_58 : decode cX5_table 58 = .ok (.iconst 1, 1) := by decide +kernel
theorem dX5_table_59 : decode cX5_table 59 = .ok (.invokevirtual 48, 3) := by decide +kernel
theorem dX5_table_62 : decode cX5_table 62 = .ok (.ifCond .eq 5, 3) := by decide +kernel
theorem dX5_table_65 : decode cX5_table 65 = .ok (.iconst (-1), 1) := by decide +kernel
theorem dX5_table_66 : decode cX5_table 66 = .ok (.ireturn, 1) := by decide +kernel
theorem dX5_table_67 : decode cX5_table 67 = .ok (.iload_n 3, 1) := by decide +kernel
theorem dX5_table_68 : decode cX5_table 68 = .ok (.ifCond .eq 14, 3) := by decide +kernel
theorem dX5_table_71 : decode cX5_table 71 = .ok (.aload_n 0, 1) := by decide +kernel
theorem dX5_table_72 : decode cX5_table 72 = .ok (.getfield 40, 3) := by decide +kernel
theorem dX5_table_75 : decode cX5_table 75 = .ok (.iload_n 2, 1) := by decide +kernel
theorem dX5_table_76 : decode cX5_table 76 = .ok (.invokevirtual 200, 3) := by decide +kernel
theorem dX5_table_79 : decode cX5_table 79 = .ok (.goto 11, 3) := by decide +kernel
theorem dX5_table_82 : decode cX5_table 82 = .ok (.aload_n 0, 1) := by decide +kernel
theorem dX5_table_83 : decode cX5_table 83 = .ok (.getfield 40, 3) := by decide +kernel
theorem dX5_table_86 : decode cX5_table 86 = .ok (.iload_n 2, 1) := by decide +kernel
theorem dX5_table_87 : decode cX5_table 87 = .ok (.invokevirtual 203, 3) := by decide +kernel
theorem dX5_table_90 : decode cX5_table 90 = .ok (.aload_n 0, 1) := by decide +kernel
theorem dX5_table_91 : decode cX5_table 91 = .ok (.getfield 40, 3) := by decide +kernel
theorem dX5_table_94 : decode cX5_table 94 = .ok (.getfield 123, 3) := by decide +kernel
theorem dX5_table_97 : decode cX5_table 97 = .ok (.ireturn, 1) := by decide +kernel
theorem dX5_twice_0 : decode cX5_twice 0 = .ok (.aload_n 0, 1) := by decide +kernel
theorem dX5_twice_1 : decode cX5_twice 1 = .ok (.getfield 40, 3) := by decide +kernel
theorem dX5_twice_4 : decode cX5_twice 4 = .ok (.getfield 123, 3) := by decide +kernel
theorem dX5_twice_7 : decode cX5_twice 7 = .ok (.ifCond .ne 7, 3) := by decide +kernel
theorem dX5_twice_10 : decode cX5_twice 10 = .ok (.iconst 2, 1) := by decide +kernel
theorem dX5_twice_11 : decode cX5_twice 11 = .ok (.goto 22, 3) := by decide +kernel
theorem dX5_twice_14 : decode cX5_twice 14 = .ok (.iconst 2, 1) := by decide +kernel
theorem dX5_twice_15 : decode cX5_twice 15 = .ok (.aload_n 0, 1) := by decide +kernel
theorem dX5_twice_16 : decode cX5_twice 16 = .ok (.getfield 40, 3) := by decide +kernel
theorem dX5_twice_19 : decode cX5_twice 19 = .ok (.getfield 123, 3) := by decide +kernel
theorem dX5_twice_22 : decode cX5_twice 22 = .ok (.imul, 1) := by decide +kernel
theorem dX5_twice_23 : decode cX5_twice 23 = .ok (.bipush 32, 2) := by decide +kernel
theorem dX5_twice_25 : decode cX5_twice 25 = .ok (.if_icmp .le 7, 3) := by decide +kernel
theorem dX5_twice_28 : decode cX5_twice 28 = .ok (.iconst 3, 1) := by decide +kernel
theorem dX5_twice_29 : decode cX5_twice 29 = .ok (.goto 4, 3) := by decide +kernel
theorem dX5_twice_32 : decode cX5_twice 32 = .ok (.iconst 0, 1) := by decide +kernel
theorem dX5_twice_33 : decode cX5_twice 33 = .ok (.istore_n 1, 1) := by decide +kernel
theorem dX5_twice_34 : decode cX5_twice 34 = .ok (.aload_n 0, 1) := by decide +kernel
theorem dX5_twice_35 : decode cX5_twice 35 = .ok (.iload_n 1, 1) := by decide +kernel
theorem dX5_twice_36 : decode cX5_twice 36 = .ok (.invokevirtual 48, 3) := by decide +kernel
theorem dX5_twice_39 : decode cX5_twice 39 = .ok (.ifCond .eq 5, 3) := by decide +kernel
theorem dX5_twice_42 : decode cX5_twice 42 = .ok (.iconst (-1), 1) := by decide +kernel
theorem dX5_twice_43 : decode cX5_twice 43 = .ok (.ireturn, 1) := by decide +kernel
theorem dX5_twice_44 : decode cX5_twice 44 = .ok (.aload_n 0, 1) := by decide +kernel
theorem dX5_twice_45 : decode cX5_twice 45 = .ok (.getfield 40, 3) := by decide +kernel
theorem dX5_twice_48 : decode cX5_twice 48 = .ok (.invokevirtual 206, 3) := by decide +kernel
theorem dX5_twice_51 : decode cX5_twice 51 = .ok (.aload_n 0, 1) := by decide +kernel
theorem dX5_twice_52 : decode cX5_twice 52 = .ok (.getfield 40, 3) := by decide +kernel
theorem dX5_twice_55 : decode cX5_twice 55 = .ok (.getfield 123, 3) := by decide +kernel
theorem dX5_twice_58 : decode cX5_twice 58 = .ok (.ireturn, 1) := by decide +kernel
theorem dX5_swap_0 : decode cX5_swap 0 = .ok (.aload_n 0, 1) := by decide +kernel
theorem dX5_swap_1 : decode cX5_swap 1 = .ok (.aload_n 0, 1) := by decide +kernel
theorem dX5_swap_2 : decode cX5_swap 2 = .ok (.iload_n 1, 1) := by decide +kernel
theorem dX5_swap_3 : decode cX5_swap 3 = .ok (.iload_n 2, 1) := by decide +kernel
theorem dX5_swap_4 : decode cX5_swap 4 = .ok (.invokevirtual 209, 3) := by decide +kernel
theorem dX5_swap_7 : decode cX5_swap 7 = .ok (.invokevirtual 48, 3) := by decide +kernel
theorem dX5_swap_10 : decode cX5_swap 10 = .ok (.ifCond .eq 5, 3) := by decide +kernel
theorem dX5_swap_13 : decode cX5_swap 13 = .ok (.iconst 0, 1) := by decide +kernel
theorem dX5_swap_14 : decode cX5_swap 14 = .ok (.ireturn, 1) := by decide +kernel
theorem dX5_swap_15 : decode cX5_swap 15 = .ok (.aload_n 0, 1) := by decide +kernel
theorem dX5_swap_16 : decode cX5_swap 16 = .ok (.getfield 40, 3) := by decide +kernel
theorem dX5_swap_19 : decode cX5_swap 19 = .ok (.iload_n 1, 1) := by decide +kernel
theorem dX5_swap_20 : decode cX5_swap 20 = .ok (.iload_n 2, 1) := by decide +kernel
theorem dX5_swap_21 : decode cX5_swap 21 = .ok (.invokevirtual 212, 3) := by decide +kernel
theorem dX5_swap_24 : decode cX5_swap 24 = .ok (.iconst 1, 1) := by decide +kernel
theorem dX5_swap_25 : decode cX5_swap 25 = .ok (.ireturn, 1) := by decide +kernel
theorem dX5_sign_0 : decode cX5_sign 0 = .ok (.aload_n 0, 1) := by decide +kernel
theorem dX5_sign_1 : decode cX5_sign 1 = .ok (.iconst 0, 1) := by decide +kernel
theorem dX5_sign_2 : decode cX5_sign 2 = .ok (.putfield 44, 3) := by decide +kernel
theorem dX5_sign_5 : decode cX5_sign 5 = .ok (.aload_n 0, 1) := by decide +kernel
theorem dX5_sign_6 : decode cX5_sign 6 = .ok (.getfield 40, 3) := by decide +kernel
theorem dX5_sign_9 : decode cX5_sign 9 = .ok (.iload_n 1, 1) := by decide +kernel
theorem dX5_sign_10 : decode cX5_sign 10 = .ok (.invokevirtual 215, 3) := by decide +kernel
theorem dX5_sign_13 : decode cX5_sign 13 = .ok (.ifCond .eq 26, 3) := by decide +kernel
theorem dX5_sign_16 : decode cX5_sign 16 = .ok (.aload_n 0, 1) := by decide +kernel
theorem dX5_sign_17 : decode cX5_sign 17 = .ok (.getfield 40, 3) := by decide +kernel
theorem dX5_sign_20 : decode cX5_sign 20 = .ok (.iload_n 2, 1) := by decide +kernel
theorem dX5_sign_21 : decode cX5_sign 21 = .ok (.invokevirtual 215, 3) := by decide +kernel
theorem dX5_sign_24 : decode cX5_sign 24 = .ok (.ifCond .eq 15, 3) := by decide +kernel
theorem dX5_sign_27 : decode cX5_sign 27 = .ok (.aload_n 0, 1) := by decide +kernel
theorem dX5_sign_28 : decode cX5_sign 28 = .ok (.getfield 40, 3) := by decide +kernel
theorem dX5_sign_31 : decode cX5_sign 31 = .ok (.iload_n 1, 1) := by decide +kernel
theorem dX5_sign_32 : decode cX5_sign 32 = .ok (.iload_n 2, 1) := by decide +kernel
theorem dX5_sign_33 : decode cX5_sign 33 = .ok (.invokevirtual 216, 3) := by decide +kernel
theorem dX5_sign_36 : decode cX5_sign 36 = .ok (.goto 4, 3) := by decide +kernel
theorem dX5_sign_39 : decode cX5_sign 39 = .ok (.iconst 0, 1) := by decide +kernel
theorem dX5_sign_40 : decode cX5_sign 40 = .ok (.ireturn, 1) := by decide +kernel
theorem dX5_product_0 : decode cX5_product 0 = .ok (.aload_n 0, 1) := by decide +kernel
theorem dX5_product_1 : decode cX5_product 1 = .ok (.aload_n 0, 1) := by decide +kernel
theorem dX5_product_2 : decode cX5_product 2 = .ok (.iload_n 1, 1) := by decide +kernel
theorem dX5_product_3 : decode cX5_product 3 = .ok (.iload_n 2, 1) := by decide +kernel
theorem dX5_product_4 : decode cX5_product 4 = .ok (.invokevirtual 209, 3) := by decide +kernel
theorem dX5_product_7 : decode cX5_product 7 = .ok (.invokevirtual 48, 3) := by decide +kernel
theorem dX5_product_10 : decode cX5_product 10 = .ok (.ifCond .eq 5, 3) := by decide +kernel
theorem dX5_product_13 : decode cX5_product 13 = .ok (.iconst 0, 1) := by decide +kernel
theorem dX5_product_14 : decode cX5_product 14 = .ok (.ireturn, 1) := by decide +kernel
theorem dX5_product_15 : decode cX5_product 15 = .ok (.aload_n 0, 1) := by decide +kernel
theorem dX5_product_16 : decode cX5_product 16 = .ok (.getfield 40, 3) := by decide +kernel
theorem dX5_product_19 : decode cX5_product 19 = .ok (.iload_n 1, 1) := by decide +kernel
theorem dX5_product_20 : decode cX5_product 20 = .ok (.iload_n 2, 1) := by decide +kernel
theorem dX5_product_21 : decode cX5_product 21 = .ok (.invokevirtual 219, 3) := by decide +kernel
theorem dX5_product_24 : decode cX5_product 24 = .ok (.ireturn, 1) := by decide +kernel
theorem dX5_look_0 : decode cX5_look 0 = .ok (.aload_n 0, 1) := by decide +kernel
theorem dX5_look_1 : decode cX5_look 1 = .ok (.aload_n 0, 1) := by decide +kernel
theorem dX5_look_2 : decode cX5_look 2 = .ok (.iload_n 1, 1) := by decide +kernel
theorem dX5_look_3 : decode cX5_look 3 = .ok (.iload_n 1, 1) := by decide +kernel
theorem dX5_look_4 : decode cX5_look 4 = .ok (.invokevirtual 209, 3) := by decide +kernel
theorem dX5_look_7 : decode cX5_look 7 = .ok (.invokevirtual 48, 3) := by decide +kernel
theorem dX5_look_10 : decode cX5_look 10 = .ok (.ifCond .eq 5, 3) := by decide +kernel
theorem dX5_look_13 : decode cX5_look 13 = .ok (.iconst 0, 1) := by decide +kernel
theorem dX5_look_14 : decode cX5_look 14 = .ok (.ireturn, 1) := by decide +kernel
theorem dX5_look_15 : decode cX5_look 15 = .ok (.aload_n 0, 1) := by decide +kernel
theorem dX5_look_16 : decode cX5_look 16 = .ok (.getfield 40, 3) := by decide +kernel
theorem dX5_look_19 : decode cX5_look 19 = .ok (.getfield 123, 3) := by decide +kernel
theorem dX5_look_22 : decode cX5_look 22 = .ok (.aload_n 0, 1) := by decide +kernel
theorem dX5_look_23 : decode cX5_look 23 = .ok (.getfield 10, 3) := by decide +kernel
theorem dX5_look_26 : decode cX5_look 26 = .ok (.getfield 77, 3) := by decide +kernel
theorem dX5_look_29 : decode cX5_look 29 = .ok (.invokestatic 222, 3) := by decide +kernel
theorem dX5_look_32 : decode cX5_look 32 = .ok (.istore_n 2, 1) := by decide +kernel
theorem dX5_look_33 : decode cX5_look 33 = .ok (.iconst 0, 1) := by decide +kernel
theorem dX5_look_34 : decode cX5_look 34 = .ok (.istore_n 3, 1) := by decide +kernel
theorem dX5_look_35 : decode cX5_look 35 = .ok (.iconst 0, 1) := by decide +kernel
theorem dX5_look_36 : decode cX5_look 36 = .ok (.istore 4, 2) := by decide +kernel
theorem dX5_look_38 : decode cX5_look 38 = .ok (.iload 4, 2) := by decide +kernel
theorem dX5_look_40 : decode cX5_look 40 = .ok (.iload_n 2, 1) := by decide +kernel
theorem dX5_look_41 : decode cX5_look 41 = .ok (.if_icmp .ge 33, 3) := by decide +kernel
theorem dX5_look_44 : decode cX5_look 44 = .ok (.iload_n 3, 1) := by decide +kernel
theorem dX5_look_45 : decode cX5_look 45 = .ok (.aload_n 0, 1) := by decide +kernel
theorem dX5_look_46 : decode cX5_look 46 = .ok (.getfield 10, 3) := by decide +kernel
theorem dX5_look_49 : decode cX5_look 49 = .ok (.iconst 1, 1) := by decide +kernel
theorem dX5_look_50 : decode cX5_look 50 = .ok (.iload 4, 2) := by decide +kernel
theorem dX5_look_52 : decode cX5_look 52 = .ok (.invokevirtual 111, 3) := by decide +kernel
theorem dX5_look_55 : decode cX5_look 55 = .ok (.aload_n 0, 1) := by decide +kernel
theorem dX5_look_56 : decode cX5_look 56 = .ok (.getfield 40, 3) := by decide +kernel
theorem dX5_look_59 : decode cX5_look 59 = .ok (.iload_n 1, 1) := by decide +kernel
theorem dX5_look_60 : decode cX5_look 60 = .ok (.iload 4, 2) := by decide +kernel
theorem dX5_look_62 : decode cX5_look 62 = .ok (.invokevirtual 216, 3) := by decide +kernel
theorem dX5_look_65 : decode cX5_look 65 = .ok (.imul, 1) := by decide +kernel
theorem dX5_look_66 : decode cX5_look 66 = .ok (.iadd, 1) := by decide +kernel
theorem dX5_look_67 : decode cX5_look 67 = .ok (.istore_n 3, 1) := by decide +kernel
theorem dX5_look_68 : decode cX5_look 68 = .ok (.iinc 4 1, 3) := by decide +kernel
theorem dX5_look_71 : decode cX5_look 71 = .ok (.goto (-33), 3) := by decide +kernel
theorem dX5_look_74 : decode cX5_look 74 = .ok (.iload_n 3, 1) := by decide +kernel
theorem dX5_look_75 : decode cX5_look 75 = .ok (.ireturn, 1) := by decide +kernel
theorem dX5_fault_0 : decode cX5_fault 0 = .ok (.aload_n 0, 1) := by decide +kernel
theorem dX5_fault_1 : decode cX5_fault 1 = .ok (.getfield 44, 3) := by decide +kernel
theorem dX5_fault_4 : decode cX5_fault 4 = .ok (.ireturn, 1) := by decide +kernel
theorem dX5_refuses_0 : decode cX5_refuses 0 = .ok (.aload_n 0, 1) := by decide +kernel
theorem dX5_refuses_1 : decode cX5_refuses 1 = .ok (.iload_n 1, 1) := by decide +kernel
theorem dX5_refuses_2 : decode cX5_refuses 2 = .ok (.putfield 44, 3) := by decide +kernel
theorem dX5_refuses_5 : decode cX5_refuses 5 = .ok (.iload_n 1, 1) := by decide +kernel
theorem dX5_refuses_6 : decode cX5_refuses 6 = .ok (.ifCond .eq 7, 3) := by decide +kernel
theorem dX5_refuses_9 : decode cX5_refuses 9 = .ok (.iconst 1, 1) := by decide +kernel
theorem dX5_refuses_10 : decode cX5_refuses 10 = .ok (.goto 4, 3) := by decide +kernel
theorem dX5_refuses_13 : decode cX5_refuses 13 = .ok (.iconst 0, 1) := by decide +kernel
theorem dX5_refuses_14 : decode cX5_refuses 14 = .ok (.ireturn, 1) := by decide +kernel
theorem dX5_startRing_0 : decode cX5_startRing 0 = .ok (.aload_n 0, 1) := by decide +kernel
theorem dX5_startRing_1 : decode cX5_startRing 1 = .ok (.getfield 10, 3) := by decide +kernel
theorem dX5_startRing_4 : decode cX5_startRing 4 = .ok (.iload_n 1, 1) := by decide +kernel
theorem dX5_startRing_5 : decode cX5_startRing 5 = .ok (.invokevirtual 227, 3) := by decide +kernel
theorem dX5_startRing_8 : decode cX5_startRing 8 = .ok (.aload_n 0, 1) := by decide +kernel
theorem dX5_startRing_9 : decode cX5_startRing 9 = .ok (.getfield 26, 3) := by decide +kernel
theorem dX5_startRing_12 : decode cX5_startRing 12 = .ok (.iconst 0, 1) := by decide +kernel
theorem dX5_startRing_13 : decode cX5_startRing 13 = .ok (.putfield 138, 3) := by decide +kernel
theorem dX5_startRing_16 : decode cX5_startRing 16 = .ok (.return_, 1) := by decide +kernel
theorem dX5_forgetBackOf_0 : decode cX5_forgetBackOf 0 = .ok (.iload_n 1, 1) := by decide +kernel
theorem dX5_forgetBackOf_1 : decode cX5_forgetBackOf 1 = .ok (.ifCond .ne 11, 3) := by decide +kernel
theorem dX5_forgetBackOf_4 : decode cX5_forgetBackOf 4 = .ok (.aload_n 0, 1) := by decide +kernel
theorem dX5_forgetBackOf_5 : decode cX5_forgetBackOf 5 = .ok (.getfield 26, 3) := by decide +kernel
theorem dX5_forgetBackOf_8 : decode cX5_forgetBackOf 8 = .ok (.iconst 0, 1) := by decide +kernel
theorem dX5_forgetBackOf_9 : decode cX5_forgetBackOf 9 = .ok (.putfield 138, 3) := by decide +kernel
theorem dX5_forgetBackOf_12 : decode cX5_forgetBackOf 12 = .ok (.return_, 1) := by decide +kernel
theorem dX5_sheetFault_0 : decode cX5_sheetFault 0 = .ok (.iload_n 0, 1) := by decide +kernel
theorem dX5_sheetFault_1 : decode cX5_sheetFault 1 = .ok (.ifCond .lt 8, 3) := by decide +kernel
theorem dX5_sheetFault_4 : decode cX5_sheetFault 4 = .ok (.iload_n 0, 1) := by decide +kernel
theorem dX5_sheetFault_5 : decode cX5_sheetFault 5 = .ok (.iconst 3, 1) := by decide +kernel
theorem dX5_sheetFault_6 : decode cX5_sheetFault 6 = .ok (.if_icmp .le 5, 3) := by decide +kernel
theorem dX5_sheetFault_9 : decode cX5_sheetFault 9 = .ok (.iconst 1, 1) := by decide +kernel
theorem dX5_sheetFault_10 : decode cX5_sheetFault 10 = .ok (.ireturn, 1) := by decide +kernel
theorem dX5_sheetFault_11 : decode cX5_sheetFault 11 = .ok (.iload_n 0, 1) := by decide +kernel
theorem dX5_sheetFault_12 : decode cX5_sheetFault 12 = .ok (.iconst 3, 1) := by decide +kernel
theorem dX5_sheetFault_13 : decode cX5_sheetFault 13 = .ok (.if_icmp .ne 5, 3) := by decide +kernel
theorem dX5_sheetFault_16 : decode cX5_sheetFault 16 = .ok (.iconst 0, 1) := by decide +kernel
theorem dX5_sheetFault_17 : decode cX5_sheetFault 17 = .ok (.ireturn, 1) := by decide +kernel
theorem dX5_sheetFault_18 : decode cX5_sheetFault 18 = .ok (.iload_n 1, 1) := by decide +kernel
theorem dX5_sheetFault_19 : decode cX5_sheetFault 19 = .ok (.bipush 60, 2) := by decide +kernel
theorem dX5_sheetFault_21 : decode cX5_sheetFault 21 = .ok (.if_icmp .le 5, 3) := by decide +kernel
theorem dX5_sheetFault_24 : decode cX5_sheetFault 24 = .ok (.iconst 1, 1) := by decide +kernel
theorem dX5_sheetFault_25 : decode cX5_sheetFault 25 = .ok (.ireturn, 1) := by decide +kernel
theorem dX5_sheetFault_26 : decode cX5_sheetFault 26 = .ok (.iload_n 1, 1) := by decide +kernel
theorem dX5_sheetFault_27 : decode cX5_sheetFault 27 = .ok (.ifCond .ge 7, 3) := by decide +kernel
theorem dX5_sheetFault_30 : decode cX5_sheetFault 30 = .ok (.iconst 4, 1) := by decide +kernel
theorem dX5_sheetFault_31 : decode cX5_sheetFault 31 = .ok (.goto 4, 3) := by decide +kernel
theorem dX5_sheetFault_34 : decode cX5_sheetFault 34 = .ok (.iconst 0, 1) := by decide +kernel
theorem dX5_sheetFault_35 : decode cX5_sheetFault 35 = .ok (.ireturn, 1) := by decide +kernel
theorem dX5_layFault_0 : decode cX5_layFault 0 = .ok (.iload_n 1, 1) := by decide +kernel
theorem dX5_layFault_1 : decode cX5_layFault 1 = .ok (.invokestatic 93, 3) := by decide +kernel
theorem dX5_layFault_4 : decode cX5_layFault 4 = .ok (.ifCond .ne 5, 3) := by decide +kernel
theorem dX5_layFault_7 : decode cX5_layFault 7 = .ok (.iconst 1, 1) := by decide +kernel
theorem dX5_layFault_8 : decode cX5_layFault 8 = .ok (.ireturn, 1) := by decide +kernel
theorem dX5_layFault_9 : decode cX5_layFault 9 = .ok (.aload_n 0, 1) := by decide +kernel
theorem dX5_layFault_10 : decode cX5_layFault 10 = .ok (.getfield 19, 3) := by decide +kernel
theorem dX5_layFault_13 : decode cX5_layFault 13 = .ok (.getfield 67, 3) := by decide +kernel
theorem dX5_layFault_16 : decode cX5_layFault 16 = .ok (.iconst (-1), 1) := by decide +kernel
theorem dX5_layFault_17 : decode cX5_layFault 17 = .ok (.if_icmp .ne 5, 3) := by decide +kernel
theorem dX5_layFault_20 : decode cX5_layFault 20 = .ok (.iconst 2, 1) := by decide +kernel
theorem dX5_layFault_21 : decode cX5_layFault 21 = .ok (.ireturn, 1) := by decide +kernel
theorem dX5_layFault_22 : decode cX5_layFault 22 = .ok (.iconst 0, 1) := by decide +kernel
theorem dX5_layFault_23 : decode cX5_layFault 23 = .ok (.istore_n 2, 1) := by decide +kernel
theorem dX5_layFault_24 : decode cX5_layFault 24 = .ok (.iload_n 2, 1) := by decide +kernel
theorem dX5_layFault_25 : decode cX5_layFault 25 = .ok (.aload_n 0, 1) := by decide +kernel
theorem dX5_layFault_26 : decode cX5_layFault 26 = .ok (.getfield 10, 3) := by decide +kernel
theorem dX5_layFault_29 : decode cX5_layFault 29 = .ok (.getfield 77, 3) := by decide +kernel
theorem dX5_layFault_32 : decode cX5_layFault 32 = .ok (.if_icmp .ge 26, 3) := by decide +kernel
theorem dX5_layFault_35 : decode cX5_layFault 35 = .ok (.iload_n 1, 1) := by decide +kernel
theorem dX5_layFault_36 : decode cX5_layFault 36 = .ok (.aload_n 0, 1) := by decide +kernel
theorem dX5_layFault_37 : decode cX5_layFault 37 = .ok (.getfield 19, 3) := by decide +kernel
theorem dX5_layFault_40 : decode cX5_layFault 40 = .ok (.iload_n 2, 1) := by decide +kernel
theorem dX5_layFault_41 : decode cX5_layFault 41 = .ok (.invokevirtual 80, 3) := by decide +kernel
theorem dX5_layFault_44 : decode cX5_layFault 44 = .ok (.invokestatic 99, 3) := by decide +kernel
theorem dX5_layFault_47 : decode cX5_layFault 47 = .ok (.ifCond .ne 5, 3) := by decide +kernel
theorem dX5_layFault_50 : decode cX5_layFault 50 = .ok (.iconst 1, 1) := by decide +kernel
theorem dX5_layFault_51 : decode cX5_layFault 51 = .ok (.ireturn, 1) := by decide +kernel
theorem dX5_layFault_52 : decode cX5_layFault 52 = .ok (.iinc 2 1, 3) := by decide +kernel
theorem dX5_layFault_55 : decode cX5_layFault 55 = .ok (.goto (-31), 3) := by decide +kernel
theorem dX5_layFault_58 : decode cX5_layFault 58 = .ok (.iconst 0, 1) := by decide +kernel
theorem dX5_layFault_59 : decode cX5_layFault 59 = .ok (.ireturn, 1) := by decide +kernel
theorem dX5_canFold_0 : decode cX5_canFold 0 = .ok (.iload_n 1, 1) := by decide +kernel
theorem dX5_canFold_1 : decode cX5_canFold 1 = .ok (.iconst 1, 1) := by decide +kernel
theorem dX5_canFold_2 : decode cX5_canFold 2 = .ok (.if_icmp .lt 61, 3) := by decide +kernel
theorem dX5_canFold_5 : decode cX5_canFold 5 = .ok (.iload_n 2, 1) := by decide +kernel
theorem dX5_canFold_6 : decode cX5_canFold 6 = .ok (.iconst 1, 1) := by decide +kernel
theorem dX5_canFold_7 : decode cX5_canFold 7 = .ok (.if_icmp .lt 56, 3) := by decide +kernel
theorem dX5_canFold_10 : decode cX5_canFold 10 = .ok (.iload_n 1, 1) := by decide +kernel
theorem dX5_canFold_11 : decode cX5_canFold 11 = .ok (.i2l, 1) := by decide +kernel
theorem dX5_canFold_12 : decode cX5_canFold 12 = .ok (.iload_n 2, 1) := by decide +kernel
theorem dX5_canFold_13 : decode cX5_canFold 13 = .ok (.i2l, 1) := by decide +kernel
theorem dX5_canFold_14 : decode cX5_canFold 14 = .ok (.lmul, 1) := by decide +kernel
theorem dX5_canFold_15 : decode cX5_canFold 15 = .ok (.aload_n 0, 1) := by decide +kernel
theorem dX5_canFold_16 : decode cX5_canFold 16 = .ok (.getfield 10, 3) := by decide +kernel
theorem dX5_canFold_19 : decode cX5_canFold 19 = .ok (.getfield 77, 3) := by decide +kernel
theorem dX5_canFold_22 : decode cX5_canFold 22 = .ok (.i2l, 1) := by decide +kernel
theorem dX5_canFold_23 : decode cX5_canFold 23 = .ok (.lcmp, 1) := by decide +kernel
theorem dX5_canFold_24 : decode cX5_canFold 24 = .ok (.ifCond .ne 39, 3) := by decide +kernel
theorem dX5_canFold_27 : decode cX5_canFold 27 = .ok (.iload_n 1, 1) := by decide +kernel
theorem dX5_canFold_28 : decode cX5_canFold 28 = .ok (.i2l, 1) := by decide +kernel
theorem dX5_canFold_29 : decode cX5_canFold 29 = .ok (.iload_n 2, 1) := by decide +kernel
theorem dX5_canFold_30 : decode cX5_canFold 30 = .ok (.i2l, 1) := by decide +kernel
theorem dX5_canFold_31 : decode cX5_canFold 31 = .ok (.invokestatic 230, 3) := by decide +kernel
theorem dX5_canFold_34 : decode cX5_canFold 34 = .ok (.lconst 1, 1) := by decide +kernel
theorem dX5_canFold_35 : decode cX5_canFold 35 = .ok (.lcmp, 1) := by decide +kernel
theorem dX5_canFold_36 : decode cX5_canFold 36 = .ok (.ifCond .ne 27, 3) := by decide +kernel
theorem dX5_canFold_39 : decode cX5_canFold 39 = .ok (.iload_n 3, 1) := by decide +kernel
theorem dX5_canFold_40 : decode cX5_canFold 40 = .ok (.ifCond .lt 23, 3) := by decide +kernel
theorem dX5_canFold_43 : decode cX5_canFold 43 = .ok (.iload_n 3, 1) := by decide +kernel
theorem dX5_canFold_44 : decode cX5_canFold 44 = .ok (.iload_n 1, 1) := by decide +kernel
theorem dX5_canFold_45 : decode cX5_canFold 45 = .ok (.if_icmp .ge 18, 3) := by decide +kernel
theorem dX5_canFold_48 : decode cX5_canFold 48 = .ok (.iload 4, 2) := by decide +kernel
theorem dX5_canFold_50 : decode cX5_canFold 50 = .ok (.ifCond .lt 13, 3) := by decide +kernel
theorem dX5_canFold_53 : decode cX5_canFold 53 = .ok (.iload 4, 2) := by decide +kernel
theorem dX5_canFold_55 : decode cX5_canFold 55 = .ok (.iload_n 2, 1) := by decide +kernel
theorem dX5_canFold_56 : decode cX5_canFold 56 = .ok (.if_icmp .ge 7, 3) := by decide +kernel
theorem dX5_canFold_59 : decode cX5_canFold 59 = .ok (.iconst 1, 1) := by decide +kernel
theorem dX5_canFold_60 : decode cX5_canFold 60 = .ok (.goto 4, 3) := by decide +kernel
theorem dX5_canFold_63 : decode cX5_canFold 63 = .ok (.iconst 0, 1) := by decide +kernel
theorem dX5_canFold_64 : decode cX5_canFold 64 = .ok (.ireturn, 1) := by decide +kernel
theorem dX5_smallRingFault_0 : decode cX5_smallRingFault 0 = .ok (.aload_n 0, 1) := by decide +kernel
theorem dX5_smallRingFault_1 : decode cX5_smallRingFault 1 = .ok (.getfield 10, 3) := by decide +kernel
theorem dX5_smallRingFault_4 : decode cX5_smallRingFault 4 = .ok (.getfield 77, 3) := by decide +kernel
theorem dX5_smallRingFault_7 : decode cX5_smallRingFault 7 = .ok (.bipush 14, 2) := by decide +kernel
theorem dX5_smallRingFault_9 : decode cX5_smallRingFault 9 = .ok (.if_icmp .le 7, 3) := by decide +kernel
theorem dX5_smallRingFault_12 : decode cX5_smallRingFault 12 = .ok (.iconst 1, 1) := by decide +kernel
theorem dX5_smallRingFault_13 : decode cX5_smallRingFault 13 = .ok (.goto 4, 3) := by decide +kernel
theorem dX5_smallRingFault_16 : decode cX5_smallRingFault 16 = .ok (.iconst 0, 1) := by decide +kernel
theorem dX5_smallRingFault_17 : decode cX5_smallRingFault 17 = .ok (.ireturn, 1) := by decide +kernel
theorem dX5_rowsFault_0 : decode cX5_rowsFault 0 = .ok (.aload_n 0, 1) := by decide +kernel
theorem dX5_rowsFault_1 : decode cX5_rowsFault 1 = .ok (.getfield 40, 3) := by decide +kernel
theorem dX5_rowsFault_4 : decode cX5_rowsFault 4 = .ok (.getfield 123, 3) := by decide +kernel
theorem dX5_rowsFault_7 : decode cX5_rowsFault 7 = .ok (.ifCond .ne 5, 3) := by decide +kernel
theorem dX5_rowsFault_10 : decode cX5_rowsFault 10 = .ok (.iconst 2, 1) := by decide +kernel
theorem dX5_rowsFault_11 : decode cX5_rowsFault 11 = .ok (.ireturn, 1) := by decide +kernel
theorem dX5_rowsFault_12 : decode cX5_rowsFault 12 = .ok (.aload_n 0, 1) := by decide +kernel
theorem dX5_rowsFault_13 : decode cX5_rowsFault 13 = .ok (.getfield 40, 3) := by decide +kernel
theorem dX5_rowsFault_16 : decode cX5_rowsFault 16 = .ok (.iload_n 1, 1) := by decide +kernel
theorem dX5_rowsFault_17 : decode cX5_rowsFault 17 = .ok (.invokevirtual 215, 3) := by decide +kernel
theorem dX5_rowsFault_20 : decode cX5_rowsFault 20 = .ok (.ifCond .eq 18, 3) := by decide +kernel
theorem dX5_rowsFault_23 : decode cX5_rowsFault 23 = .ok (.aload_n 0, 1) := by decide +kernel
theorem dX5_rowsFault_24 : decode cX5_rowsFault 24 = .ok (.getfield 40, 3) := by decide +kernel
theorem dX5_rowsFault_27 : decode cX5_rowsFault 27 = .ok (.iload_n 2, 1) := by decide +kernel
theorem dX5_rowsFault_28 : decode cX5_rowsFault 28 = .ok (.invokevirtual 215, 3) := by decide +kernel
theorem dX5_rowsFault_31 : decode cX5_rowsFault 31 = .ok (.ifCond .eq 7, 3) := by decide +kernel
theorem dX5_rowsFault_34 : decode cX5_rowsFault 34 = .ok (.iconst 0, 1) := by decide +kernel
theorem dX5_rowsFault_35 : decode cX5_rowsFault 35 = .ok (.goto 4, 3) := by decide +kernel
theorem dX5_rowsFault_38 : decode cX5_rowsFault 38 = .ok (.iconst 1, 1) := by decide +kernel
theorem dX5_rowsFault_39 : decode cX5_rowsFault 39 = .ok (.ireturn, 1) := by decide +kernel
theorem dX5_isPrime_0 : decode cX5_isPrime 0 = .ok (.iconst 2, 1) := by decide +kernel
theorem dX5_isPrime_1 : decode cX5_isPrime 1 = .ok (.istore_n 1, 1) := by decide +kernel
theorem dX5_isPrime_2 : decode cX5_isPrime 2 = .ok (.iload_n 1, 1) := by decide +kernel
theorem dX5_isPrime_3 : decode cX5_isPrime 3 = .ok (.iload_n 0, 1) := by decide +kernel
theorem dX5_isPrime_4 : decode cX5_isPrime 4 = .ok (.if_icmp .ge 17, 3) := by decide +kernel
theorem dX5_isPrime_7 : decode cX5_isPrime 7 = .ok (.iload_n 0, 1) := by decide +kernel
theorem dX5_isPrime_8 : decode cX5_isPrime 8 = .ok (.iload_n 1, 1) := by decide +kernel
theorem dX5_isPrime_9 : decode cX5_isPrime 9 = .ok (.irem, 1) := by decide +kernel
theorem dX5_isPrime_10 : decode cX5_isPrime 10 = .ok (.ifCond .ne 5, 3) := by decide +kernel
theorem dX5_isPrime_13 : decode cX5_isPrime 13 = .ok (.iconst 0, 1) := by decide +kernel
theorem dX5_isPrime_14 : decode cX5_isPrime 14 = .ok (.ireturn, 1) := by decide +kernel
theorem dX5_isPrime_15 : decode cX5_isPrime 15 = .ok (.iinc 1 1, 3) := by decide +kernel
theorem dX5_isPrime_18 : decode cX5_isPrime 18 = .ok (.goto (-16), 3) := by decide +kernel
theorem dX5_isPrime_21 : decode cX5_isPrime 21 = .ok (.iload_n 0, 1) := by decide +kernel
theorem dX5_isPrime_22 : decode cX5_isPrime 22 = .ok (.iconst 2, 1) := by decide +kernel
theorem dX5_isPrime_23 : decode cX5_isPrime 23 = .ok (.if_icmp .lt 7, 3) := by decide +kernel
theorem dX5_isPrime_26 : decode cX5_isPrime 26 = .ok (.iconst 1, 1) := by decide +kernel
theorem dX5_isPrime_27 : decode cX5_isPrime 27 = .ok (.goto 4, 3) := by decide +kernel
theorem dX5_isPrime_30 : decode cX5_isPrime 30 = .ok (.iconst 0, 1) := by decide +kernel
theorem dX5_isPrime_31 : decode cX5_isPrime 31 = .ok (.ireturn, 1) := by decide +kernel
theorem dX5_isRestPrime_0 : decode cX5_isRestPrime 0 = .ok (.iload_n 0, 1) := by decide +kernel
theorem dX5_isRestPrime_1 : decode cX5_isRestPrime 1 = .ok (.iconst 3, 1) := by decide +kernel
theorem dX5_isRestPrime_2 : decode cX5_isRestPrime 2 = .ok (.if_icmp .lt 27, 3) := by decide +kernel
theorem dX5_isRestPrime_5 : decode cX5_isRestPrime 5 = .ok (.iload_n 0, 1) := by decide +kernel
theorem dX5_isRestPrime_6 : decode cX5_isRestPrime 6 = .ok (.bipush 60, 2) := by decide +kernel
theorem dX5_isRestPrime_8 : decode cX5_isRestPrime 8 = .ok (.if_icmp .ge 21, 3) := by decide +kernel
theorem dX5_isRestPrime_11 : decode cX5_isRestPrime 11 = .ok (.iload_n 0, 1) := by decide +kernel
theorem dX5_isRestPrime_12 : decode cX5_isRestPrime 12 = .ok (.iconst 4, 1) := by decide +kernel
theorem dX5_isRestPrime_13 : decode cX5_isRestPrime 13 = .ok (.irem, 1) := by decide +kernel
theorem dX5_isRestPrime_14 : decode cX5_isRestPrime 14 = .ok (.iconst 3, 1) := by decide +kernel
theorem dX5_isRestPrime_15 : decode cX5_isRestPrime 15 = .ok (.if_icmp .ne 14, 3) := by decide +kernel
theorem dX5_isRestPrime_18 : decode cX5_isRestPrime 18 = .ok (.iload_n 0, 1) := by decide +kernel
theorem dX5_isRestPrime_19 : decode cX5_isRestPrime 19 = .ok (.invokestatic 234, 3) := by decide +kernel
theorem dX5_isRestPrime_22 : decode cX5_isRestPrime 22 = .ok (.ifCond .eq 7, 3) := by decide +kernel
theorem dX5_isRestPrime_25 : decode cX5_isRestPrime 25 = .ok (.iconst 1, 1) := by decide +kernel
theorem dX5_isRestPrime_26 : decode cX5_isRestPrime 26 = .ok (.goto 4, 3) := by decide +kernel
theorem dX5_isRestPrime_29 : decode cX5_isRestPrime 29 = .ok (.iconst 0, 1) := by decide +kernel
theorem dX5_isRestPrime_30 : decode cX5_isRestPrime 30 = .ok (.ireturn, 1) := by decide +kernel
theorem dX5_isTwinPrime_0 : decode cX5_isTwinPrime 0 = .ok (.iload_n 0, 1) := by decide +kernel
theorem dX5_isTwinPrime_1 : decode cX5_isTwinPrime 1 = .ok (.iconst 2, 1) := by decide +kernel
theorem dX5_isTwinPrime_2 : decode cX5_isTwinPrime 2 = .ok (.if_icmp .lt 39, 3) := by decide +kernel
theorem dX5_isTwinPrime_5 : decode cX5_isTwinPrime 5 = .ok (.iload_n 0, 1) := by decide +kernel
theorem dX5_isTwinPrime_6 : decode cX5_isTwinPrime 6 = .ok (.bipush 60, 2) := by decide +kernel
theorem dX5_isTwinPrime_8 : decode cX5_isTwinPrime 8 = .ok (.if_icmp .ge 33, 3) := by decide +kernel
theorem dX5_isTwinPrime_11 : decode cX5_isTwinPrime 11 = .ok (.iload_n 0, 1) := by decide +kernel
theorem dX5_isTwinPrime_12 : decode cX5_isTwinPrime 12 = .ok (.iload_n 0, 1) := by decide +kernel
theorem dX5_isTwinPrime_13 : decode cX5_isTwinPrime 13 = .ok (.iconst 2, 1) := by decide +kernel
theorem dX5_isTwinPrime_14 : decode cX5_isTwinPrime 14 = .ok (.iadd, 1) := by decide +kernel
theorem dX5_isTwinPrime_15 : decode cX5_isTwinPrime 15 = .ok (.imul, 1) := by decide +kernel
theorem dX5_isTwinPrime_16 : decode cX5_isTwinPrime 16 = .ok (.bipush 60, 2) := by decide +kernel
theorem dX5_isTwinPrime_18 : decode cX5_isTwinPrime 18 = .ok (.if_icmp .gt 23, 3) := by decide +kernel
theorem dX5_isTwinPrime_21 : decode cX5_isTwinPrime 21 = .ok (.iload_n 0, 1) := by decide +kernel
theorem dX5_isTwinPrime_22 : decode cX5_isTwinPrime 22 = .ok (.invokestatic 234, 3) := by decide +kernel
theorem dX5_isTwinPrime_25 : decode cX5_isTwinPrime 25 = .ok (.ifCond .eq 16, 3) := by decide +kernel
theorem dX5_isTwinPrime_28 : decode cX5_isTwinPrime 28 = .ok (.iload_n 0, 1) := by decide +kernel
theorem dX5_isTwinPrime_29 : decode cX5_isTwinPrime 29 = .ok (.iconst 2, 1) := by decide +kernel
theorem dX5_isTwinPrime_30 : decode cX5_isTwinPrime 30 = .ok (.iadd, 1) := by decide +kernel
theorem dX5_isTwinPrime_31 : decode cX5_isTwinPrime 31 = .ok (.invokestatic 234, 3) := by decide +kernel
theorem dX5_isTwinPrime_34 : decode cX5_isTwinPrime 34 = .ok (.ifCond .eq 7, 3) := by decide +kernel
theorem dX5_isTwinPrime_37 : decode cX5_isTwinPrime 37 = .ok (.iconst 1, 1) := by decide +kernel
theorem dX5_isTwinPrime_38 : decode cX5_isTwinPrime 38 = .ok (.goto 4, 3) := by decide +kernel
theorem dX5_isTwinPrime_41 : decode cX5_isTwinPrime 41 = .ok (.iconst 0, 1) := by decide +kernel
theorem dX5_isTwinPrime_42 : decode cX5_isTwinPrime 42 = .ok (.ireturn, 1) := by decide +kernel
theorem dX5_isSquare_0 : decode cX5_isSquare 0 = .ok (.iconst 1, 1) := by decide +kernel
theorem dX5_isSquare_1 : decode cX5_isSquare 1 = .ok (.istore_n 2, 1) := by decide +kernel
theorem dX5_isSquare_2 : decode cX5_isSquare 2 = .ok (.iload_n 2, 1) := by decide +kernel
theorem dX5_isSquare_3 : decode cX5_isSquare 3 = .ok (.iload_n 1, 1) := by decide +kernel
theorem dX5_isSquare_4 : decode cX5_isSquare 4 = .ok (.if_icmp .ge 31, 3) := by decide +kernel
theorem dX5_isSquare_7 : decode cX5_isSquare 7 = .ok (.iload_n 2, 1) := by decide +kernel
theorem dX5_isSquare_8 : decode cX5_isSquare 8 = .ok (.iload_n 2, 1) := by decide +kernel
theorem dX5_isSquare_9 : decode cX5_isSquare 9 = .ok (.imul, 1) := by decide +kernel
theorem dX5_isSquare_10 : decode cX5_isSquare 10 = .ok (.iload_n 0, 1) := by decide +kernel
theorem dX5_isSquare_11 : decode cX5_isSquare 11 = .ok (.isub, 1) := by decide +kernel
theorem dX5_isSquare_12 : decode cX5_isSquare 12 = .ok (.iload_n 1, 1) := by decide +kernel
theorem dX5_isSquare_13 : decode cX5_isSquare 13 = .ok (.irem, 1) := by decide +kernel
theorem dX5_isSquare_14 : decode cX5_isSquare 14 = .ok (.ifCond .ne 15, 3) := by decide +kernel
theorem dX5_isSquare_17 : decode cX5_isSquare 17 = .ok (.iload_n 0, 1) := by decide +kernel
theorem dX5_isSquare_18 : decode cX5_isSquare 18 = .ok (.iload_n 1, 1) := by decide +kernel
theorem dX5_isSquare_19 : decode cX5_isSquare 19 = .ok (.irem, 1) := by decide +kernel
theorem dX5_isSquare_20 : decode cX5_isSquare 20 = .ok (.ifCond .eq 7, 3) := by decide +kernel
theorem dX5_isSquare_23 : decode cX5_isSquare 23 = .ok (.iconst 1, 1) := by decide +kernel
theorem dX5_isSquare_24 : decode cX5_isSquare 24 = .ok (.goto 4, 3) := by decide +kernel
theorem dX5_isSquare_27 : decode cX5_isSquare 27 = .ok (.iconst 0, 1) := by decide +kernel
theorem dX5_isSquare_28 : decode cX5_isSquare 28 = .ok (.ireturn, 1) := by decide +kernel
theorem dX5_isSquare_29 : decode cX5_isSquare 29 = .ok (.iinc 2 1, 3) := by decide +kernel
theorem dX5_isSquare_32 : decode cX5_isSquare 32 = .ok (.goto (-30), 3) := by decide +kernel
theorem dX5_isSquare_35 : decode cX5_isSquare 35 = .ok (.iconst 0, 1) := by decide +kernel
theorem dX5_isSquare_36 : decode cX5_isSquare 36 = .ok (.ireturn, 1) := by decide +kernel
theorem dX5_nextState_0 : decode cX5_nextState 0 = .ok (.iload_n 0, 1) := by decide +kernel
theorem dX5_nextState_1 : decode cX5_nextState 1 = .ok (.iload_n 1, 1) := by decide +kernel
theorem dX5_nextState_2 : decode cX5_nextState 2 = .ok (.iand, 1) := by decide +kernel
theorem dX5_nextState_3 : decode cX5_nextState 3 = .ok (.invokestatic 237, 3) := by decide +kernel
theorem dX5_nextState_6 : decode cX5_nextState 6 = .ok (.iconst 1, 1) := by decide +kernel
theorem dX5_nextState_7 : decode cX5_nextState 7 = .ok (.iand, 1) := by decide +kernel
theorem dX5_nextState_8 : decode cX5_nextState 8 = .ok (.istore_n 3, 1) := by decide +kernel
theorem dX5_nextState_9 : decode cX5_nextState 9 = .ok (.iload_n 0, 1) := by decide +kernel
theorem dX5_nextState_10 : decode cX5_nextState 10 = .ok (.iconst 1, 1) := by decide +kernel
theorem dX5_nextState_11 : decode cX5_nextState 11 = .ok (.ishr, 1) := by decide +kernel
theorem dX5_nextState_12 : decode cX5_nextState 12 = .ok (.iload_n 3, 1) := by decide +kernel
theorem dX5_nextState_13 : decode cX5_nextState 13 = .ok (.iload_n 2, 1) := by decide +kernel
theorem dX5_nextState_14 : decode cX5_nextState 14 = .ok (.iconst 1, 1) := by decide +kernel
theorem dX5_nextState_15 : decode cX5_nextState 15 = .ok (.isub, 1) := by decide +kernel
theorem dX5_nextState_16 : decode cX5_nextState 16 = .ok (.ishl, 1) := by decide +kernel
theorem dX5_nextState_17 : decode cX5_nextState 17 = .ok (.ior, 1) := by decide +kernel
theorem dX5_nextState_18 : decode cX5_nextState 18 = .ok (.ireturn, 1) := by decide +kernel
theorem dX5_leastTaps_0 : decode cX5_leastTaps 0 = .ok (.iconst 1, 1) := by decide +kernel
theorem dX5_leastTaps_1 : decode cX5_leastTaps 1 = .ok (.istore_n 2, 1) := by decide +kernel
theorem dX5_leastTaps_2 : decode cX5_leastTaps 2 = .ok (.iload_n 2, 1) := by decide +kernel
theorem dX5_leastTaps_3 : decode cX5_leastTaps 3 = .ok (.iload_n 1, 1) := by decide +kernel
theorem dX5_leastTaps_4 : decode cX5_leastTaps 4 = .ok (.if_icmp .gt 21, 3) := by decide +kernel
theorem dX5_leastTaps_7 : decode cX5_leastTaps 7 = .ok (.iload_n 2, 1) := by decide +kernel
theorem dX5_leastTaps_8 : decode cX5_leastTaps 8 = .ok (.iload_n 0, 1) := by decide +kernel
theorem dX5_leastTaps_9 : decode cX5_leastTaps 9 = .ok (.iload_n 1, 1) := by decide +kernel
theorem dX5_leastTaps_10 : decode cX5_leastTaps 10 = .ok (.invokestatic 242, 3) := by decide +kernel
theorem dX5_leastTaps_13 : decode cX5_leastTaps 13 = .ok (.iload_n 1, 1) := by decide +kernel
theorem dX5_leastTaps_14 : decode cX5_leastTaps 14 = .ok (.if_icmp .ne 5, 3) := by decide +kernel
theorem dX5_leastTaps_17 : decode cX5_leastTaps 17 = .ok (.iload_n 2, 1) := by decide +kernel
theorem dX5_leastTaps_18 : decode cX5_leastTaps 18 = .ok (.ireturn, 1) := by decide +kernel
theorem dX5_leastTaps_19 : decode cX5_leastTaps 19 = .ok (.iinc 2 2, 3) := by decide +kernel
theorem dX5_leastTaps_22 : decode cX5_leastTaps 22 = .ok (.goto (-20), 3) := by decide +kernel
theorem dX5_leastTaps_25 : decode cX5_leastTaps 25 = .ok (.iconst (-1), 1) := by decide +kernel
theorem dX5_leastTaps_26 : decode cX5_leastTaps 26 = .ok (.ireturn, 1) := by decide +kernel
theorem dX5_stepsRound_0 : decode cX5_stepsRound 0 = .ok (.iconst 1, 1) := by decide +kernel
theorem dX5_stepsRound_1 : decode cX5_stepsRound 1 = .ok (.iload_n 1, 1) := by decide +kernel
theorem dX5_stepsRound_2 : decode cX5_stepsRound 2 = .ok (.iconst 1, 1) := by decide +kernel
theorem dX5_stepsRound_3 : decode cX5_stepsRound 3 = .ok (.isub, 1) := by decide +kernel
theorem dX5_stepsRound_4 : decode cX5_stepsRound 4 = .ok (.ishl, 1) := by decide +kernel
theorem dX5_stepsRound_5 : decode cX5_stepsRound 5 = .ok (.istore_n 3, 1) := by decide +kernel
theorem dX5_stepsRound_6 : decode cX5_stepsRound 6 = .ok (.iload_n 3, 1) := by decide +kernel
theorem dX5_stepsRound_7 : decode cX5_stepsRound 7 = .ok (.istore 4, 2) := by decide +kernel
theorem dX5_stepsRound_9 : decode cX5_stepsRound 9 = .ok (.iconst 1, 1) := by decide +kernel
theorem dX5_stepsRound_10 : decode cX5_stepsRound 10 = .ok (.istore 5, 2) := by decide +kernel
theorem dX5_stepsRound_12 : decode cX5_stepsRound 12 = .ok (.iload 5, 2) := by decide +kernel
theorem dX5_stepsRound_14 : decode cX5_stepsRound 14 = .ok (.iload_n 2, 1) := by decide +kernel
theorem dX5_stepsRound_15 : decode cX5_stepsRound 15 = .ok (.if_icmp .gt 27, 3) := by decide +kernel
theorem dX5_stepsRound_18 : decode cX5_stepsRound 18 = .ok (.iload 4, 2) := by decide +kernel
theorem dX5_stepsRound_20 : decode cX5_stepsRound 20 = .ok (.iload_n 0, 1) := by decide +kernel
theorem dX5_stepsRound_21 : decode cX5_stepsRound 21 = .ok (.iload_n 1, 1) := by decide +kernel
theorem dX5_stepsRound_22 : decode cX5_stepsRound 22 = .ok (.invokestatic 158, 3) := by decide +kernel
theorem dX5_stepsRound_25 : decode cX5_stepsRound 25 = .ok (.istore 4, 2) := by decide +kernel
theorem dX5_stepsRound_27 : decode cX5_stepsRound 27 = .ok (.iload 4, 2) := by decide +kernel
theorem dX5_stepsRound_29 : decode cX5_stepsRound 29 = .ok (.iload_n 3, 1) := by decide +kernel
theorem dX5_stepsRound_30 : decode cX5_stepsRound 30 = .ok (.if_icmp .ne 6, 3) := by decide +kernel
theorem dX5_stepsRound_33 : decode cX5_stepsRound 33 = .ok (.iload 5, 2) := by decide +kernel
theorem dX5_stepsRound_35 : decode cX5_stepsRound 35 = .ok (.ireturn, 1) := by decide +kernel
theorem dX5_stepsRound_36 : decode cX5_stepsRound 36 = .ok (.iinc 5 1, 3) := by decide +kernel
theorem dX5_stepsRound_39 : decode cX5_stepsRound 39 = .ok (.goto (-27), 3) := by decide +kernel
theorem dX5_stepsRound_42 : decode cX5_stepsRound 42 = .ok (.iconst (-1), 1) := by decide +kernel
theorem dX5_stepsRound_43 : decode cX5_stepsRound 43 = .ok (.ireturn, 1) := by decide +kernel
theorem dX5_commonDivisor_0 : decode cX5_commonDivisor 0 = .ok (.lload_n 0, 1) := by decide +kernel
theorem dX5_commonDivisor_1 : decode cX5_commonDivisor 1 = .ok (.invokestatic 245, 3) := by decide +kernel
theorem dX5_commonDivisor_4 : decode cX5_commonDivisor 4 = .ok (.lstore 4, 2) := by decide +kernel
theorem dX5_commonDivisor_6 : decode cX5_commonDivisor 6 = .ok (.lload_n 2, 1) := by decide +kernel
theorem dX5_commonDivisor_7 : decode cX5_commonDivisor 7 = .ok (.invokestatic 245, 3) := by decide +kernel
theorem dX5_commonDivisor_10 : decode cX5_commonDivisor 10 = .ok (.lstore 6, 2) := by decide +kernel
theorem dX5_commonDivisor_12 : decode cX5_commonDivisor 12 = .ok (.iconst 0, 1) := by decide +kernel
theorem dX5_commonDivisor_13 : decode cX5_commonDivisor 13 = .ok (.istore 8, 2) := by decide +kernel
theorem dX5_commonDivisor_15 : decode cX5_commonDivisor 15 = .ok (.iload 8, 2) := by decide +kernel
theorem dX5_commonDivisor_17 : decode cX5_commonDivisor 17 = .ok (.bipush 100, 2) := by decide +kernel
theorem dX5_commonDivisor_19 : decode cX5_commonDivisor 19 = .ok (.if_icmp .ge 31, 3) := by decide +kernel
theorem dX5_commonDivisor_22 : decode cX5_commonDivisor 22 = .ok (.lload 6, 2) := by decide +kernel
theorem dX5_commonDivisor_24 : decode cX5_commonDivisor 24 = .ok (.lconst 0, 1) := by decide +kernel
theorem dX5_commonDivisor_25 : decode cX5_commonDivisor 25 = .ok (.lcmp, 1) := by decide +kernel
theorem dX5_commonDivisor_26 : decode cX5_commonDivisor 26 = .ok (.ifCond .eq 24, 3) := by decide +kernel
theorem dX5_commonDivisor_29 : decode cX5_commonDivisor 29 = .ok (.lload 4, 2) := by decide +kernel
theorem dX5_commonDivisor_31 : decode cX5_commonDivisor 31 = .ok (.lload 6, 2) := by decide +kernel
theorem dX5_commonDivisor_33 : decode cX5_commonDivisor 33 = .ok (.lrem, 1) := by decide +kernel
theorem dX5_commonDivisor_34 : decode cX5_commonDivisor 34 = .ok (.lstore 9, 2) := by decide +kernel
theorem dX5_commonDivisor_36 : decode cX5_commonDivisor 36 = .ok (.lload 6, 2) := by decide +kernel
theorem dX5_commonDivisor_38 : decode cX5_commonDivisor 38 = .ok (.lstore 4, 2) := by decide +kernel
theorem dX5_commonDivisor_40 : decode cX5_commonDivisor 40 = .ok (.lload 9, 2) := by decide +kernel
theorem dX5_commonDivisor_42 : decode cX5_commonDivisor 42 = .ok (.lstore 6, 2) := by decide +kernel
theorem dX5_commonDivisor_44 : decode cX5_commonDivisor 44 = .ok (.iinc 8 1, 3) := by decide +kernel
theorem dX5_commonDivisor_47 : decode cX5_commonDivisor 47 = .ok (.goto (-32), 3) := by decide +kernel
theorem dX5_commonDivisor_50 : decode cX5_commonDivisor 50 = .ok (.lload 4, 2) := by decide +kernel
theorem dX5_commonDivisor_52 : decode cX5_commonDivisor 52 = .ok (.lreturn, 1) := by decide +kernel
theorem dX5_quotient_0 : decode cX5_quotient 0 = .ok (.lload_n 2, 1) := by decide +kernel
theorem dX5_quotient_1 : decode cX5_quotient 1 = .ok (.lconst 0, 1) := by decide +kernel
theorem dX5_quotient_2 : decode cX5_quotient 2 = .ok (.lcmp, 1) := by decide +kernel
theorem dX5_quotient_3 : decode cX5_quotient 3 = .ok (.ifCond .ne 7, 3) := by decide +kernel
theorem dX5_quotient_6 : decode cX5_quotient 6 = .ok (.lconst 0, 1) := by decide +kernel
theorem dX5_quotient_7 : decode cX5_quotient 7 = .ok (.goto 6, 3) := by decide +kernel
theorem dX5_quotient_10 : decode cX5_quotient 10 = .ok (.lload_n 0, 1) := by decide +kernel
theorem dX5_quotient_11 : decode cX5_quotient 11 = .ok (.lload_n 2, 1) := by decide +kernel
theorem dX5_quotient_12 : decode cX5_quotient 12 = .ok (.ldiv, 1) := by decide +kernel
theorem dX5_quotient_13 : decode cX5_quotient 13 = .ok (.lreturn, 1) := by decide +kernel
end
section
theorem dX6_init_0 : decode cX6_init 0 = .ok (.aload_n 0, 1) := by decide +kernel
theorem dX6_init_1 : decode cX6_init 1 = .ok (.invokespecial 1, 3) := by decide +kernel
theorem dX6_init_4 : decode cX6_init 4 = .ok (.aload_n 0, 1) := by decide +kernel
theorem dX6_init_5 : decode cX6_init 5 = .ok (.iconst 1, 1) := by decide +kernel
theorem dX6_init_6 : decode cX6_init 6 = .ok (.putfield 7, 3) := by decide +kernel
theorem dX6_init_9 : decode cX6_init 9 = .ok (.aload_n 0, 1) := by decide +kernel
theorem dX6_init_10 : decode cX6_init 10 = .ok (.bipush 60, 2) := by decide +kernel
theorem dX6_init_12 : decode cX6_init 12 = .ok (.newarray .int, 2) := by decide +kernel
theorem dX6_init_14 : decode cX6_init 14 = .ok (.putfield 13, 3) := by decide +kernel
theorem dX6_init_17 : decode cX6_init 17 = .ok (.aload_n 0, 1) := by decide +kernel
theorem dX6_init_18 : decode cX6_init 18 = .ok (.bipush 60, 2) := by decide +kernel
theorem dX6_init_20 : decode cX6_init 20 = .ok (.newarray .int, 2) := by decide +kernel
theorem dX6_init_22 : decode cX6_init 22 = .ok (.putfield 17, 3) := by decide +kernel
theorem dX6_init_25 : decode cX6_init 25 = .ok (.aload_n 0, 1) := by decide +kernel
theorem dX6_init_26 : decode cX6_init 26 = .ok (.bipush 60, 2) := by decide +kernel
theorem dX6_init_28 : decode cX6_init 28 = .ok (.newarray .int, 2) := by decide +kernel
theorem dX6_init_30 : decode cX6_init 30 = .ok (.putfield 20, 3) := by decide +kernel
theorem dX6_init_33 : decode cX6_init 33 = .ok (.aload_n 0, 1) := by decide +kernel
theorem dX6_init_34 : decode cX6_init 34 = .ok (.bipush 60, 2) := by decide +kernel
theorem dX6_init_36 : decode cX6_init 36 = .ok (.newarray .boolean, 2) := by decide +kernel
theorem dX6_init_38 : decode cX6_init 38 = .ok (.putfield 23, 3) := by decide +kernel
theorem dX6_init_41 : decode cX6_init 41 = .ok (.aload_n 0, 1) := by decide +kernel
theorem dX6_init_42 : decode cX6_init 42 = .ok (.iconst (-1), 1) := by decide +kernel
theorem dX6_init_43 : decode cX6_init 43 = .ok (.putfield 27, 3) := by decide +kernel
theorem dX6_init_46 : decode cX6_init 46 = .ok (.aload_n 0, 1) := by decide +kernel
theorem dX6_init_47 : decode cX6_init 47 = .ok (.bipush 60, 2) := by decide +kernel
theorem dX6_init_49 : decode cX6_init 49 = .ok (.newarray .int, 2) := by decide +kernel
theorem dX6_init_51 : decode cX6_init 51 = .ok (.putfield 30, 3) := by decide +kernel
theorem dX6_init_54 : decode cX6_init 54 = .ok (.aload_n 0, 1) := by decide +kernel
theorem dX6_init_55 : decode cX6_init 55 = .ok (.bipush 14, 2) := by decide +kernel
theorem dX6_init_57 : decode cX6_init 57 = .ok (.newarray .long, 2) := by decide +kernel
theorem dX6_init_59 : decode cX6_init 59 = .ok (.putfield 33, 3) := by decide +kernel
theorem dX6_init_62 : decode cX6_init 62 = .ok (.aload_n 0, 1) := by decide +kernel
theorem dX6_init_63 : decode cX6_init 63 = .ok (.iconst (-1), 1) := by decide +kernel
theorem dX6_init_64 : decode cX6_init 64 = .ok (.putfield 37, 3) := by decide +kernel
theorem dX6_init_67 : decode cX6_init 67 = .ok (.aload_n 0, 1) := by decide +kernel
theorem dX6_init_68 : decode cX6_init 68 = .ok (.sipush 1024, 3) := by decide +kernel
theorem dX6_init_71 : decode cX6_init 71 = .ok (.newarray .int, 2) := by decide +kernel
theorem dX6_init_73 : decode cX6_init 73 = .ok (.putfield 40, 3) := by decide +kernel
theorem dX6_init_76 : decode cX6_init 76 = .ok (.aload_n 0, 1) := by decide +kernel
theorem dX6_init_77 : decode cX6_init 77 = .ok (.sipush 800, 3) := by decide +kernel
theorem dX6_init_80 : decode cX6_init 80 = .ok (.newarray .int, 2) := by decide +kernel
theorem dX6_init_82 : decode cX6_init 82 = .ok (.putfield 43, 3) := by decide +kernel
theorem dX6_init_85 : decode cX6_init 85 = .ok (.aload_n 0, 1) := by decide +kernel
theorem dX6_init_86 : decode cX6_init 86 = .ok (.sipush 210, 3) := by decide +kernel
theorem dX6_init_89 : decode cX6_init 89 = .ok (.newarray .long, 2) := by decide +kernel
theorem dX6_init_91 : decode cX6_init 91 = .ok (.putfield 46, 3) := by decide +kernel
theorem dX6_init_94 : decode cX6_init 94 = .ok (.aload_n 0, 1) := by decide +kernel
theorem dX6_init_95 : decode cX6_init 95 = .ok (.bipush 15, 2) := by decide +kernel
theorem dX6_init_97 : decode cX6_init 97 = .ok (.newarray .long, 2) := by decide +kernel
theorem dX6_init_99 : decode cX6_init 99 = .ok (.putfield 49, 3) := by decide +kernel
theorem dX6_init_102 : decode cX6_init 102 = .ok (.aload_n 0, 1) := by decide +kernel
theorem dX6_init_103 : decode cX6_init 103 = .ok (.bipush 14, 2) := by decide +kernel
theorem dX6_init_105 : decode cX6_init 105 = .ok (.newarray .long, 2) := by decide +kernel
theorem dX6_init_107 : decode cX6_init 107 = .ok (.putfield 52, 3) := by decide +kernel
theorem dX6_init_110 : decode cX6_init 110 = .ok (.aload_n 0, 1) := by decide +kernel
theorem dX6_init_111 : decode cX6_init 111 = .ok (.bipush 60, 2) := by decide +kernel
theorem dX6_init_113 : decode cX6_init 113 = .ok (.newarray .int, 2) := by decide +kernel
theorem dX6_init_115 : decode cX6_init 115 = .ok (.putfield 55, 3) := by decide +kernel
theorem dX6_init_118 : decode cX6_init 118 = .ok (.return_, 1) := by decide +kernel
theorem dX6_thrown_0 : decode cX6_thrown 0 = .ok (.aload_n 0, 1) := by decide +kernel
theorem dX6_thrown_1 : decode cX6_thrown 1 = .ok (.getfield 58, 3) := by decide +kernel
theorem dX6_thrown_4 : decode cX6_thrown 4 = .ok (.ireturn, 1) := by decide +kernel
theorem dX6_no_0 : decode cX6_no 0 = .ok (.aload_n 0, 1) := by decide +kernel
theorem dX6_no_1 : decode cX6_no 1 = .ok (.iload_n 1, 1) := by decide +kernel
theorem dX6_no_2 : decode cX6_no 2 = .ok (.putfield 61, 3) := by decide +kernel
theorem dX6_no_5 : decode cX6_no 5 = .ok (.iconst (-1), 1) := by decide +kernel
theorem dX6_no_6 : decode cX6_no 6 = .ok (.ireturn, 1) := by decide +kernel
theorem dX6_not_0 : decode cX6_not 0 = .ok (.aload_n 0, 1) := by decide +kernel
theorem dX6_not_1 : decode cX6_not 1 = .ok (.iload_n 1, 1) := by decide +kernel
theorem dX6_not_2 : decode cX6_not 2 = .ok (.putfield 61, 3) := by decide +kernel
theorem dX6_not_5 : decode cX6_not 5 = .ok (.iconst 0, 1) := by decide +kernel
theorem dX6_not_6 : decode cX6_not 6 = .ok (.ireturn, 1) := by decide +kernel
theorem dX6_start_0 : decode cX6_start 0 = .ok (.aload_n 0, 1) := by decide +kernel
theorem dX6_start_1 : decode cX6_start 1 = .ok (.iconst 0, 1) := by decide +kernel
theorem dX6_start_2 : decode cX6_start 2 = .ok (.putfield 61, 3) := by decide +kernel
theorem dX6_start_5 : decode cX6_start 5 = .ok (.return_, 1) := by decide +kernel
theorem dX6_isPlace_0 : decode cX6_isPlace 0 = .ok (.iload_n 1, 1) := by decide +kernel
theorem dX6_isPlace_1 : decode cX6_isPlace 1 = .ok (.ifCond .lt 15, 3) := by decide +kernel
theorem dX6_isPlace_4 : decode cX6_isPlace 4 = .ok (.iload_n 1, 1) := by decide +kernel
theorem dX6_isPlace_5 : decode cX6_isPlace 5 = .ok (.aload_n 0, 1) := by decide +kernel
theorem dX6_isPlace_6 : decode cX6_isPlace 6 = .ok (.getfield 7, 3) := by decide +kernel
theorem dX6_isPlace_9 : decode cX6_isPlace 9 = .ok (.if_icmp .ge 7, 3) := by decide +kernel
theorem dX6_isPlace_12 : decode cX6_isPlace 12 = .ok (.iconst 1, 1) := by decide +kernel
theorem dX6_isPlace_13 : decode cX6_isPlace 13 = .ok (.goto 4, 3) := by decide +kernel
theorem dX6_isPlace_16 : decode cX6_isPlace 16 = .ok (.iconst 0, 1) := by decide +kernel
theorem dX6_isPlace_17 : decode cX6_isPlace 17 = .ok (.ireturn, 1) := by decide +kernel
theorem dX6_begin_0 : decode cX6_begin 0 = .ok (.aload_n 0, 1) := by decide +kernel
theorem dX6_begin_1 : decode cX6_begin 1 = .ok (.iload_n 1, 1) := by decide +kernel
theorem dX6_begin_2 : decode cX6_begin 2 = .ok (.putfield 7, 3) := by decide +kernel
theorem dX6_begin_5 : decode cX6_begin 5 = .ok (.iconst 0, 1) := by decide +kernel
theorem dX6_begin_6 : decode cX6_begin 6 = .ok (.istore_n 2, 1) := by decide +kernel
theorem dX6_begin_7 : decode cX6_begin 7 = .ok (.iload_n 2, 1) := by decide +kernel
theorem dX6_begin_8 : decode cX6_begin 8 = .ok (.bipush 60, 2) := by decide +kernel
theorem dX6_begin_10 : decode cX6_begin 10 = .ok (.if_icmp .ge 37, 3) := by decide +kernel
theorem dX6_begin_13 : decode cX6_begin 13 = .ok (.aload_n 0, 1) := by decide +kernel
theorem dX6_begin_14 : decode cX6_begin 14 = .ok (.getfield 13, 3) := by decide +kernel
theorem dX6_begin_17 : decode cX6_begin 17 = .ok (.iload_n 2, 1) := by decide +kernel
theorem dX6_begin_18 : decode cX6_begin 18 = .ok (.iconst 0, 1) := by decide +kernel
theorem dX6_begin_19 : decode cX6_begin 19 = .ok (.iastore, 1) := by decide +kernel
theorem dX6_begin_20 : decode cX6_begin 20 = .ok (.aload_n 0, 1) := by decide +kernel
theorem dX6_begin_21 : decode cX6_begin 21 = .ok (.getfield 17, 3) := by decide +kernel
theorem dX6_begin_24 : decode cX6_begin 24 = .ok (.iload_n 2, 1) := by decide +kernel
theorem dX6_begin_25 : decode cX6_begin 25 = .ok (.iconst 0, 1) := by decide +kernel
theorem dX6_begin_26 : decode cX6_begin 26 = .ok (.iastore, 1) := by decide +kernel
theorem dX6_begin_27 : decode cX6_begin 27 = .ok (.aload_n 0, 1) := by decide +kernel
theorem dX6_begin_28 : decode cX6_begin 28 = .ok (.getfield 20, 3) := by decide +kernel
theorem dX6_begin_31 : decode cX6_begin 31 = .ok (.iload_n 2, 1) := by decide +kernel
theorem dX6_begin_32 : decode cX6_begin 32 = .ok (.iconst 0, 1) := by decide +kernel
theorem dX6_begin_33 : decode cX6_begin 33 = .ok (.iastore, 1) := by decide +kernel
theorem dX6_begin_34 : decode cX6_begin 34 = .ok (.aload_n 0, 1) := by decide +kernel
theorem dX6_begin_35 : decode cX6_begin 35 = .ok (.getfield 23, 3) := by decide +kernel
theorem dX6_begin_38 : decode cX6_begin 38 = .ok (.iload_n 2, 1) := by decide +kernel
theorem dX6_begin_39 : decode cX6_begin 39 = .ok (.iconst 0, 1) := by decide +kernel
theorem dX6_begin_40 : decode cX6_begin 40 = .ok (.bastore, 1) := by decide +kernel
theorem dX6_begin_41 : decode cX6_begin 41 = .ok (.iinc 2 1, 3) := by decide +kernel
theorem dX6_begin_44 : decode cX6_begin 44 = .ok (.goto (-37), 3) := by decide +kernel
theorem dX6_begin_47 : decode cX6_begin 47 = .ok (.aload_n 0, 1) := by decide +kernel
theorem dX6_begin_48 : decode cX6_begin 48 = .ok (.lconst 0, 1) := by decide +kernel
theorem dX6_begin_49 : decode cX6_begin 49 = .ok (.putfield 64, 3) := by decide +kernel
theorem dX6_begin_52 : decode cX6_begin 52 = .ok (.return_, 1) := by decide +kernel
theorem dX6_ring_0 : decode cX6_ring 0 = .ok (.aload_n 0, 1) := by decide +kernel
theorem dX6_ring_1 : decode cX6_ring 1 = .ok (.invokevirtual 68, 3) := by decide +kernel
theorem dX6_ring_4 : decode cX6_ring 4 = .ok (.iload_n 1, 1) := by decide +kernel
theorem dX6_ring_5 : decode cX6_ring 5 = .ok (.iconst 1, 1) := by decide +kernel
theorem dX6_ring_6 : decode cX6_ring 6 = .ok (.if_icmp .lt 9, 3) := by decide +kernel
theorem dX6_ring_9 : decode cX6_ring 9 = .ok (.iload_n 1, 1) := by decide +kernel
theorem dX6_ring_10 : decode cX6_ring 10 = .ok (.bipush 60, 2) := by decide +kernel
theorem dX6_ring_12 : decode cX6_ring 12 = .ok (.if_icmp .le 9, 3) := by decide +kernel
theorem dX6_ring_15 : decode cX6_ring 15 = .ok (.aload_n 0, 1) := by decide +kernel
theorem dX6_ring_16 : decode cX6_ring 16 = .ok (.iconst 1, 1) := by decide +kernel
theorem dX6_ring_17 : decode cX6_ring 17 = .ok (.invokevirtual 71, 3) := by decide +kernel
theorem dX6_ring_20 : decode cX6_ring 20 = .ok (.ireturn, 1) := by decide +kernel
theorem dX6_ring_21 : decode cX6_ring 21 = .ok (.aload_n 0, 1) := by decide +kernel
theorem dX6_ring_22 : decode cX6_ring 22 = .ok (.iload_n 1, 1) := by decide +kernel
theorem dX6_ring_23 : decode cX6_ring 23 = .ok (.invokevirtual 75, 3) := by decide +kernel
theorem dX6_ring_26 : decode cX6_ring 26 = .ok (.iconst 1, 1) := by decide +kernel
theorem dX6_ring_27 : decode cX6_ring 27 = .ok (.ireturn, 1) := by decide +kernel
theorem dX6_sheet_0 : decode cX6_sheet 0 = .ok (.aload_n 0, 1) := by decide +kernel
theorem dX6_sheet_1 : decode cX6_sheet 1 = .ok (.invokevirtual 68, 3) := by decide +kernel
theorem dX6_sheet_4 : decode cX6_sheet 4 = .ok (.iload_n 1, 1) := by decide +kernel
theorem dX6_sheet_5 : decode cX6_sheet 5 = .ok (.ifCond .lt 19, 3) := by decide +kernel
theorem dX6_sheet_8 : decode cX6_sheet 8 = .ok (.iload_n 1, 1) := by decide +kernel
theorem dX6_sheet_9 : decode cX6_sheet 9 = .ok (.iconst 3, 1) := by decide +kernel
theorem dX6_sheet_10 : decode cX6_sheet 10 = .ok (.if_icmp .gt 14, 3) := by decide +kernel
theorem dX6_sheet_13 : decode cX6_sheet 13 = .ok (.iload_n 1, 1) := by decide +kernel
theorem dX6_sheet_14 : decode cX6_sheet 14 = .ok (.iconst 3, 1) := by decide +kernel
theorem dX6_sheet_15 : decode cX6_sheet 15 = .ok (.if_icmp .ge 15, 3) := by decide +kernel
theorem dX6_sheet_18 : decode cX6_sheet 18 = .ok (.iload_n 2, 1) := by decide +kernel
theorem dX6_sheet_19 : decode cX6_sheet 19 = .ok (.bipush 60, 2) := by decide +kernel
theorem dX6_sheet_21 : decode cX6_sheet 21 = .ok (.if_icmp .le 9, 3) := by decide +kernel
theorem dX6_sheet_24 : decode cX6_sheet 24 = .ok (.aload_n 0, 1) := by decide +kernel
theorem dX6_sheet_25 : decode cX6_sheet 25 = .ok (.iconst 1, 1) := by decide +kernel
theorem dX6_sheet_26 : decode cX6_sheet 26 = .ok (.invokevirtual 79, 3) := by decide +kernel
theorem dX6_sheet_29 : decode cX6_sheet 29 = .ok (.ireturn, 1) := by decide +kernel
theorem dX6_sheet_30 : decode cX6_sheet 30 = .ok (.iload_n 1, 1) := by decide +kernel
theorem dX6_sheet_31 : decode cX6_sheet 31 = .ok (.iconst 3, 1) := by decide +kernel
theorem dX6_sheet_32 : decode cX6_sheet 32 = .ok (.if_icmp .ge 13, 3) := by decide +kernel
theorem dX6_sheet_35 : decode cX6_sheet 35 = .ok (.iload_n 2, 1) := by decide +kernel
theorem dX6_sheet_36 : decode cX6_sheet 36 = .ok (.ifCond .ge 9, 3) := by decide +kernel
theorem dX6_sheet_39 : decode cX6_sheet 39 = .ok (.aload_n 0, 1) := by decide +kernel
theorem dX6_sheet_40 : decode cX6_sheet 40 = .ok (.iconst 4, 1) := by decide +kernel
theorem dX6_sheet_41 : decode cX6_sheet 41 = .ok (.invokevirtual 79, 3) := by decide +kernel
theorem dX6_sheet_44 : decode cX6_sheet 44 = .ok (.ireturn, 1) := by decide +kernel
theorem dX6_sheet_45 : decode cX6_sheet 45 = .ok (.aload_n 0, 1) := by decide +kernel
theorem dX6_sheet_46 : decode cX6_sheet 46 = .ok (.iload_n 1, 1) := by decide +kernel
theorem dX6_sheet_47 : decode cX6_sheet 47 = .ok (.putfield 27, 3) := by decide +kernel
theorem dX6_sheet_50 : decode cX6_sheet 50 = .ok (.aload_n 0, 1) := by decide +kernel
theorem dX6_sheet_51 : decode cX6_sheet 51 = .ok (.iload_n 1, 1) := by decide +kernel
theorem dX6_sheet_52 : decode cX6_sheet 52 = .ok (.iconst 3, 1) := by decide +kernel
theorem dX6_sheet_53 : decode cX6_sheet 53 = .ok (.if_icmp .ne 7, 3) := by decide +kernel
theorem dX6_sheet_56 : decode cX6_sheet 56 = .ok (.iconst 0, 1) := by decide +kernel
theorem dX6_sheet_57 : decode cX6_sheet 57 = .ok (.goto 4, 3) := by decide +kernel
theorem dX6_sheet_60 : decode cX6_sheet 60 = .ok (.iload_n 2, 1) := by decide +kernel
theorem dX6_sheet_61 : decode cX6_sheet 61 = .ok (.putfield 83, 3) := by decide +kernel
theorem dX6_sheet_64 : decode cX6_sheet 64 = .ok (.iconst 0, 1) := by decide +kernel
theorem dX6_sheet_65 : decode cX6_sheet 65 = .ok (.istore_n 3, 1) := by decide +kernel
theorem dX6_sheet_66 : decode cX6_sheet 66 = .ok (.iload_n 3, 1) := by decide +kernel
theorem dX6_sheet_67 : decode cX6_sheet 67 = .ok (.bipush 60, 2) := by decide +kernel
theorem dX6_sheet_69 : decode cX6_sheet 69 = .ok (.if_icmp .ge 16, 3) := by decide +kernel
theorem dX6_sheet_72 : decode cX6_sheet 72 = .ok (.aload_n 0, 1) := by decide +kernel
theorem dX6_sheet_73 : decode cX6_sheet 73 = .ok (.getfield 30, 3) := by decide +kernel
theorem dX6_sheet_76 : decode cX6_sheet 76 = .ok (.iload_n 3, 1) := by decide +kernel
theorem dX6_sheet_77 : decode cX6_sheet 77 = .ok (.iconst 0, 1) := by decide +kernel
theorem dX6_sheet_78 : decode cX6_sheet 78 = .ok (.iastore, 1) := by decide +kernel
theorem dX6_sheet_79 : decode cX6_sheet 79 = .ok (.iinc 3 1, 3) := by decide +kernel
theorem dX6_sheet_82 : decode cX6_sheet 82 = .ok (.goto (-16), 3) := by decide +kernel
theorem dX6_sheet_85 : decode cX6_sheet 85 = .ok (.aload_n 0, 1) := by decide +kernel
theorem dX6_sheet_86 : decode cX6_sheet 86 = .ok (.getfield 83, 3) := by decide +kernel
theorem dX6_sheet_89 : decode cX6_sheet 89 = .ok (.ireturn, 1) := by decide +kernel
theorem dX6_entry_0 : decode cX6_entry 0 = .ok (.aload_n 0, 1) := by decide +kernel
theorem dX6_entry_1 : decode cX6_entry 1 = .ok (.invokevirtual 68, 3) := by decide +kernel
theorem dX6_entry_4 : decode cX6_entry 4 = .ok (.aload_n 0, 1) := by decide +kernel
theorem dX6_entry_5 : decode cX6_entry 5 = .ok (.getfield 27, 3) := by decide +kernel
theorem dX6_entry_8 : decode cX6_entry 8 = .ok (.iconst (-1), 1) := by decide +kernel
theorem dX6_entry_9 : decode cX6_entry 9 = .ok (.if_icmp .eq 11, 3) := by decide +kernel
theorem dX6_entry_12 : decode cX6_entry 12 = .ok (.aload_n 0, 1) := by decide +kernel
theorem dX6_entry_13 : decode cX6_entry 13 = .ok (.getfield 27, 3) := by decide +kernel
theorem dX6_entry_16 : decode cX6_entry 16 = .ok (.iconst 3, 1) := by decide +kernel
theorem dX6_entry_17 : decode cX6_entry 17 = .ok (.if_icmp .ne 9, 3) := by decide +kernel
theorem dX6_entry_20 : decode cX6_entry 20 = .ok (.aload_n 0, 1) := by decide +kernel
theorem dX6_entry_21 : decode cX6_entry 21 = .ok (.iconst 2, 1) := by decide +kernel
theorem dX6_entry_22 : decode cX6_entry 22 = .ok (.invokevirtual 71, 3) := by decide +kernel
theorem dX6_entry_25 : decode cX6_entry 25 = .ok (.ireturn, 1) := by decide +kernel
theorem dX6_entry_26 : decode cX6_entry 26 = .ok (.iload_n 1, 1) := by decide +kernel
theorem dX6_entry_27 : decode cX6_entry 27 = .ok (.ifCond .lt 11, 3) := by decide +kernel
theorem dX6_entry_30 : decode cX6_entry 30 = .ok (.iload_n 1, 1) := by decide +kernel
theorem dX6_entry_31 : decode cX6_entry 31 = .ok (.aload_n 0, 1) := by decide +kernel
theorem dX6_entry_32 : decode cX6_entry 32 = .ok (.getfield 83, 3) := by decide +kernel
theorem dX6_entry_35 : decode cX6_entry 35 = .ok (.if_icmp .lt 9, 3) := by decide +kernel
theorem dX6_entry_38 : decode cX6_entry 38 = .ok (.aload_n 0, 1) := by decide +kernel
theorem dX6_entry_39 : decode cX6_entry 39 = .ok (.iconst 1, 1) := by decide +kernel
theorem dX6_entry_40 : decode cX6_entry 40 = .ok (.invokevirtual 71, 3) := by decide +kernel
theorem dX6_entry_43 : decode cX6_entry 43 = .ok (.ireturn, 1) := by decide +kernel
theorem dX6_entry_44 : decode cX6_entry 44 = .ok (.bipush 32, 2) := by decide +kernel
theorem dX6_entry_46 : decode cX6_entry 46 = .ok (.bipush 8, 2) := by decide +kernel
theorem dX6_entry_48 : decode cX6_entry 48 = .ok (.aload_n 0, 1) := by decide +kernel
theorem dX6_entry_49 : decode cX6_entry 49 = .ok (.getfield 27, 3) := by decide +kernel
theorem dX6_entry_52 : decode cX6_entry 52 = .ok (.ishl, 1) := by decide +kernel
theorem dX6_entry_53 : decode cX6_entry 53 = .ok (.isub, 1) := by decide +kernel
theorem dX6_entry_54 : decode cX6_entry 54 = .ok (.istore_n 3, 1) := by decide +kernel
theorem dX6_entry_55 : decode cX6_entry 55 = .ok (.aload_n 0, 1) := by decide +kernel
theorem dX6_entry_56 : decode cX6_entry 56 = .ok (.getfield 30, 3) := by decide +kernel
theorem dX6_entry_59 : decode cX6_entry 59 = .ok (.iload_n 1, 1) := by decide +kernel
theorem dX6_entry_60 : decode cX6_entry 60 = .ok (.iload_n 2, 1) := by decide +kernel
theorem dX6_entry_61 : decode cX6_entry 61 = .ok (.iload_n 3, 1) := by decide +kernel
theorem dX6_entry_62 : decode cX6_entry 62 = .ok (.ishl, 1) := by decide +kernel
theorem dX6_entry_63 : decode cX6_entry 63 = .ok (.iload_n 3, 1) := by decide +kernel
theorem dX6_entry_64 : decode cX6_entry 64 = .ok (.ishr, 1) := by decide +kernel
theorem dX6_entry_65 : decode cX6_entry 65 = .ok (.iastore, 1) := by decide +kernel
theorem dX6_entry_66 : decode cX6_entry 66 = .ok (.iconst 1, 1) := by decide +kernel
theorem dX6_entry_67 : decode cX6_entry 67 = .ok (.ireturn, 1) := by decide +kernel
theorem dX6_most_0 : decode cX6_most 0 = .ok (.iload_n 0, 1) := by decide +kernel
theorem dX6_most_1 : decode cX6_most 1 = .ok (.ifCond .ne 7, 3) := by decide +kernel
theorem dX6_most_4 : decode cX6_most 4 = .ok (.iconst 1, 1) := by decide +kernel
theorem dX6_most_5 : decode cX6_most 5 = .ok (.goto 16, 3) := by decide +kernel
theorem dX6_most_8 : decode cX6_most 8 = .ok (.iload_n 0, 1) := by decide +kernel
theorem dX6_most_9 : decode cX6_most 9 = .ok (.iconst 1, 1) := by decide +kernel
theorem dX6_most_10 : decode cX6_most 10 = .ok (.if_icmp .ne 9, 3) := by decide +kernel
theorem dX6_most_13 : decode cX6_most 13 = .ok (.sipush 1000, 3) := by decide +kernel
theorem dX6_most_16 : decode cX6_most 16 = .ok (.goto 5, 3) := by decide +kernel
theorem dX6_most_19 : decode cX6_most 19 = .ok (.ldc 86, 2) := by decide +kernel
theorem dX6_most_21 : decode cX6_most 21 = .ok (.ireturn, 1) := by decide +kernel
theorem dX6_lay_0 : decode cX6_lay 0 = .ok (.aload_n 0, 1) := by decide +kernel
theorem dX6_lay_1 : decode cX6_lay 1 = .ok (.invokevirtual 68, 3) := by decide +kernel
theorem dX6_lay_4 : decode cX6_lay 4 = .ok (.iload_n 1, 1) := by decide +kernel
theorem dX6_lay_5 : decode cX6_lay 5 = .ok (.ifCond .lt 8, 3) := by decide +kernel
theorem dX6_lay_8 : decode cX6_lay 8 = .ok (.iload_n 1, 1) := by decide +kernel
theorem dX6_lay_9 : decode cX6_lay 9 = .ok (.iconst 2, 1) := by decide +kernel
theorem dX6_lay_10 : decode cX6_lay 10 = .ok (.if_icmp .le 9, 3) := by decide +kernel
theorem dX6_lay_13 : decode cX6_lay 13 = .ok (.aload_n 0, 1) := by decide +kernel
theorem dX6_lay_14 : decode cX6_lay 14 = .ok (.iconst 1, 1) := by decide +kernel
theorem dX6_lay_15 : decode cX6_lay 15 = .ok (.invokevirtual 71, 3) := by decide +kernel
theorem dX6_lay_18 : decode cX6_lay 18 = .ok (.ireturn, 1) := by decide +kernel
theorem dX6_lay_19 : decode cX6_lay 19 = .ok (.aload_n 0, 1) := by decide +kernel
theorem dX6_lay_20 : decode cX6_lay 20 = .ok (.getfield 27, 3) := by decide +kernel
theorem dX6_lay_23 : decode cX6_lay 23 = .ok (.iconst (-1), 1) := by decide +kernel
theorem dX6_lay_24 : decode cX6_lay 24 = .ok (.if_icmp .ne 9, 3) := by decide +kernel
theorem dX6_lay_27 : decode cX6_lay 27 = .ok (.aload_n 0, 1) := by decide +kernel
theorem dX6_lay_28 : decode cX6_lay 28 = .ok (.iconst 2, 1) := by decide +kernel
theorem dX6_lay_29 : decode cX6_lay 29 = .ok (.invokevirtual 71, 3) := by decide +kernel
theorem dX6_lay_32 : decode cX6_lay 32 = .ok (.ireturn, 1) := by decide +kernel
theorem dX6_lay_33 : decode cX6_lay 33 = .ok (.iconst 0, 1) := by decide +kernel
theorem dX6_lay_34 : decode cX6_lay 34 = .ok (.istore_n 2, 1) := by decide +kernel
theorem dX6_lay_35 : decode cX6_lay 35 = .ok (.iload_n 2, 1) := by decide +kernel
theorem dX6_lay_36 : decode cX6_lay 36 = .ok (.aload_n 0, 1) := by decide +kernel
theorem dX6_lay_37 : decode cX6_lay 37 = .ok (.getfield 7, 3) := by decide +kernel
theorem dX6_lay_40 : decode cX6_lay 40 = .ok (.if_icmp .ge 42, 3) := by decide +kernel
theorem dX6_lay_43 : decode cX6_lay 43 = .ok (.aload_n 0, 1) := by decide +kernel
theorem dX6_lay_44 : decode cX6_lay 44 = .ok (.getfield 30, 3) := by decide +kernel
theorem dX6_lay_47 : decode cX6_lay 47 = .ok (.iload_n 2, 1) := by decide +kernel
theorem dX6_lay_48 : decode cX6_lay 48 = .ok (.iaload, 1) := by decide +kernel
theorem dX6_lay_49 : decode cX6_lay 49 = .ok (.iload_n 1, 1) := by decide +kernel
theorem dX6_lay_50 : decode cX6_lay 50 = .ok (.invokestatic 87, 3) := by decide +kernel
theorem dX6_lay_53 : decode cX6_lay 53 = .ok (.ineg, 1) := by decide +kernel
theorem dX6_lay_54 : decode cX6_lay 54 = .ok (.if_icmp .lt 16, 3) := by decide +kernel
theorem dX6_lay_57 : decode cX6_lay 57 = .ok (.aload_n 0, 1) := by decide +kernel
theorem dX6_lay_58 : decode cX6_lay 58 = .ok (.getfield 30, 3) := by decide +kernel
theorem dX6_lay_61 : decode cX6_lay 61 = .ok (.iload_n 2, 1) := by decide +kernel
theorem dX6_lay_62 : decode cX6_lay 62 = .ok (.iaload, 1) := by decide +kernel
theorem dX6_lay_63 : decode cX6_lay 63 = .ok (.iload_n 1, 1) := by decide +kernel
theorem dX6_lay_64 : decode cX6_lay 64 = .ok (.invokestatic 87, 3) := by decide +kernel
theorem dX6_lay_67 : decode cX6_lay 67 = .ok (.if_icmp .le 9, 3) := by decide +kernel
theorem dX6_lay_70 : decode cX6_lay 70 = .ok (.aload_n 0, 1) := by decide +kernel
theorem dX6_lay_71 : decode cX6_lay 71 = .ok (.iconst 1, 1) := by decide +kernel
theorem dX6_lay_72 : decode cX6_lay 72 = .ok (.invokevirtual 71, 3) := by decide +kernel
theorem dX6_lay_75 : decode cX6_lay 75 = .ok (.ireturn, 1) := by decide +kernel
theorem dX6_lay_76 : decode cX6_lay 76 = .ok (.iinc 2 1, 3) := by decide +kernel
theorem dX6_lay_79 : decode cX6_lay 79 = .ok (.goto (-44), 3) := by decide +kernel
theorem dX6_lay_82 : decode cX6_lay 82 = .ok (.iconst 0, 1) := by decide +kernel
theorem dX6_lay_83 : decode cX6_lay 83 = .ok (.istore_n 2, 1) := by decide +kernel
theorem dX6_lay_84 : decode cX6_lay 84 = .ok (.iload_n 2, 1) := by decide +kernel
theorem dX6_lay_85 : decode cX6_lay 85 = .ok (.aload_n 0, 1) := by decide +kernel
theorem dX6_lay_86 : decode cX6_lay 86 = .ok (.getfield 7, 3) := by decide +kernel
theorem dX6_lay_89 : decode cX6_lay 89 = .ok (.if_icmp .ge 21, 3) := by decide +kernel
theorem dX6_lay_92 : decode cX6_lay 92 = .ok (.aload_n 0, 1) := by decide +kernel
theorem dX6_lay_93 : decode cX6_lay 93 = .ok (.iload_n 1, 1) := by decide +kernel
theorem dX6_lay_94 : decode cX6_lay 94 = .ok (.iload_n 2, 1) := by decide +kernel
theorem dX6_lay_95 : decode cX6_lay 95 = .ok (.aload_n 0, 1) := by decide +kernel
theorem dX6_lay_96 : decode cX6_lay 96 = .ok (.getfield 30, 3) := by decide +kernel
theorem dX6_lay_99 : decode cX6_lay 99 = .ok (.iload_n 2, 1) := by decide +kernel
theorem dX6_lay_100 : decode cX6_lay 100 = .ok (.iaload, 1) := by decide +kernel
theorem dX6_lay_101 : decode cX6_lay 101 = .ok (.invokevirtual 90, 3) := by decide +kernel
theorem dX6_lay_104 : decode cX6_lay 104 = .ok (.iinc 2 1, 3) := by decide +kernel
theorem dX6_lay_107 : decode cX6_lay 107 = .ok (.goto (-23), 3) := by decide +kernel
theorem dX6_lay_110 : decode cX6_lay 110 = .ok (.aload_n 0, 1) := by decide +kernel
theorem dX6_lay_111 : decode cX6_lay 111 = .ok (.iconst (-1), 1) := by decide +kernel
theorem dX6_lay_112 : decode cX6_lay 112 = .ok (.putfield 27, 3) := by decide +kernel
theorem dX6_lay_115 : decode cX6_lay 115 = .ok (.iconst 1, 1) := by decide +kernel
theorem dX6_lay_116 : decode cX6_lay 116 = .ok (.ireturn, 1) := by decide +kernel
theorem dX6_put_0 : decode cX6_put 0 = .ok (.iload_n 1, 1) := by decide +kernel
theorem dX6_put_1 : decode cX6_put 1 = .ok (.ifCond .ne 18, 3) := by decide +kernel
theorem dX6_put_4 : decode cX6_put 4 = .ok (.aload_n 0, 1) := by decide +kernel
theorem dX6_put_5 : decode cX6_put 5 = .ok (.getfield 13, 3) := by decide +kernel
theorem dX6_put_8 : decode cX6_put 8 = .ok (.iload_n 2, 1) := by decide +kernel
theorem dX6_put_9 : decode cX6_put 9 = .ok (.iload_n 3, 1) := by decide +kernel
theorem dX6_put_10 : decode cX6_put 10 = .ok (.iastore, 1) := by decide +kernel
theorem dX6_put_11 : decode cX6_put 11 = .ok (.aload_n 0, 1) := by decide +kernel
theorem dX6_put_12 : decode cX6_put 12 = .ok (.lconst 0, 1) := by decide +kernel
theorem dX6_put_13 : decode cX6_put 13 = .ok (.putfield 64, 3) := by decide +kernel
theorem dX6_put_16 : decode cX6_put 16 = .ok (.goto 32, 3) := by decide +kernel
theorem dX6_put_19 : decode cX6_put 19 = .ok (.iload_n 1, 1) := by decide +kernel
theorem dX6_put_20 : decode cX6_put 20 = .ok (.iconst 1, 1) := by decide +kernel
theorem dX6_put_21 : decode cX6_put 21 = .ok (.if_icmp .ne 13, 3) := by decide +kernel
theorem dX6_put_24 : decode cX6_put 24 = .ok (.aload_n 0, 1) := by decide +kernel
theorem dX6_put_25 : decode cX6_put 25 = .ok (.getfield 17, 3) := by decide +kernel
theorem dX6_put_28 : decode cX6_put 28 = .ok (.iload_n 2, 1) := by decide +kernel
theorem dX6_put_29 : decode cX6_put 29 = .ok (.iload_n 3, 1) := by decide +kernel
theorem dX6_put_30 : decode cX6_put 30 = .ok (.iastore, 1) := by decide +kernel
theorem dX6_put_31 : decode cX6_put 31 = .ok (.goto 17, 3) := by decide +kernel
theorem dX6_put_34 : decode cX6_put 34 = .ok (.aload_n 0, 1) := by decide +kernel
theorem dX6_put_35 : decode cX6_put 35 = .ok (.getfield 20, 3) := by decide +kernel
theorem dX6_put_38 : decode cX6_put 38 = .ok (.iload_n 2, 1) := by decide +kernel
theorem dX6_put_39 : decode cX6_put 39 = .ok (.iload_n 3, 1) := by decide +kernel
theorem dX6_put_40 : decode cX6_put 40 = .ok (.iastore, 1) := by decide +kernel
theorem dX6_put_41 : decode cX6_put 41 = .ok (.aload_n 0, 1) := by decide +kernel
theorem dX6_put_42 : decode cX6_put 42 = .ok (.getfield 23, 3) := by decide +kernel
theorem dX6_put_45 : decode cX6_put 45 = .ok (.iload_n 2, 1) := by decide +kernel
theorem dX6_put_46 : decode cX6_put 46 = .ok (.iconst 0, 1) := by decide +kernel
theorem dX6_put_47 : decode cX6_put 47 = .ok (.bastore, 1) := by decide +kernel
theorem dX6_put_48 : decode cX6_put 48 = .ok (.return_, 1) := by decide +kernel
theorem dX6_set_0 : decode cX6_set 0 = .ok (.aload_n 0, 1) := by decide +kernel
theorem dX6_set_1 : decode cX6_set 1 = .ok (.invokevirtual 68, 3) := by decide +kernel
theorem dX6_set_4 : decode cX6_set 4 = .ok (.iload_n 1, 1) := by decide +kernel
theorem dX6_set_5 : decode cX6_set 5 = .ok (.ifCond .lt 33, 3) := by decide +kernel
theorem dX6_set_8 : decode cX6_set 8 = .ok (.iload_n 1, 1) := by decide +kernel
theorem dX6_set_9 : decode cX6_set 9 = .ok (.iconst 2, 1) := by decide +kernel
theorem dX6_set_10 : decode cX6_set 10 = .ok (.if_icmp .gt 28, 3) := by decide +kernel
theorem dX6_set_13 : decode cX6_set 13 = .ok (.aload_n 0, 1) := by decide +kernel
theorem dX6_set_14 : decode cX6_set 14 = .ok (.iload_n 2, 1) := by decide +kernel
theorem dX6_set_15 : decode cX6_set 15 = .ok (.invokevirtual 94, 3) := by decide +kernel
theorem dX6_set_18 : decode cX6_set 18 = .ok (.ifCond .eq 20, 3) := by decide +kernel
theorem dX6_set_21 : decode cX6_set 21 = .ok (.iload_n 3, 1) := by decide +kernel
theorem dX6_set_22 : decode cX6_set 22 = .ok (.iload_n 1, 1) := by decide +kernel
theorem dX6_set_23 : decode cX6_set 23 = .ok (.invokestatic 87, 3) := by decide +kernel
theorem dX6_set_26 : decode cX6_set 26 = .ok (.ineg, 1) := by decide +kernel
theorem dX6_set_27 : decode cX6_set 27 = .ok (.if_icmp .lt 11, 3) := by decide +kernel
theorem dX6_set_30 : decode cX6_set 30 = .ok (.iload_n 3, 1) := by decide +kernel
theorem dX6_set_31 : decode cX6_set 31 = .ok (.iload_n 1, 1) := by decide +kernel
theorem dX6_set_32 : decode cX6_set 32 = .ok (.invokestatic 87, 3) := by decide +kernel
theorem dX6_set_35 : decode cX6_set 35 = .ok (.if_icmp .le 9, 3) := by decide +kernel
theorem dX6_set_38 : decode cX6_set 38 = .ok (.aload_n 0, 1) := by decide +kernel
theorem dX6_set_39 : decode cX6_set 39 = .ok (.iconst 1, 1) := by decide +kernel
theorem dX6_set_40 : decode cX6_set 40 = .ok (.invokevirtual 71, 3) := by decide +kernel
theorem dX6_set_43 : decode cX6_set 43 = .ok (.ireturn, 1) := by decide +kernel
theorem dX6_set_44 : decode cX6_set 44 = .ok (.aload_n 0, 1) := by decide +kernel
theorem dX6_set_45 : decode cX6_set 45 = .ok (.iload_n 1, 1) := by decide +kernel
theorem dX6_set_46 : decode cX6_set 46 = .ok (.iload_n 2, 1) := by decide +kernel
theorem dX6_set_47 : decode cX6_set 47 = .ok (.iload_n 3, 1) := by decide +kernel
theorem dX6_set_48 : decode cX6_set 48 = .ok (.invokevirtual 90, 3) := by decide +kernel
theorem dX6_set_51 : decode cX6_set 51 = .ok (.iconst 1, 1) := by decide +kernel
theorem dX6_set_52 : decode cX6_set 52 = .ok (.ireturn, 1) := by decide +kernel
theorem dX6_miss_0 : decode cX6_miss 0 = .ok (.aload_n 0, 1) := by decide +kernel
theorem dX6_miss_1 : decode cX6_miss 1 = .ok (.invokevirtual 68, 3) := by decide +kernel
theorem dX6_miss_4 : decode cX6_miss 4 = .ok (.aload_n 0, 1) := by decide +kernel
theorem dX6_miss_5 : decode cX6_miss 5 = .ok (.iload_n 1, 1) := by decide +kernel
theorem dX6_miss_6 : decode cX6_miss 6 = .ok (.invokevirtual 94, 3) := by decide +kernel
theorem dX6_miss_9 : decode cX6_miss 9 = .ok (.ifCond .ne 9, 3) := by decide +kernel
theorem dX6_miss_12 : decode cX6_miss 12 = .ok (.aload_n 0, 1) := by decide +kernel
theorem dX6_miss_13 : decode cX6_miss 13 = .ok (.iconst 1, 1) := by decide +kernel
theorem dX6_miss_14 : decode cX6_miss 14 = .ok (.invokevirtual 71, 3) := by decide +kernel
theorem dX6_miss_17 : decode cX6_miss 17 = .ok (.ireturn, 1) := by decide +kernel
theorem dX6_miss_18 : decode cX6_miss 18 = .ok (.aload_n 0, 1) := by decide +kernel
theorem dX6_miss_19 : decode cX6_miss 19 = .ok (.getfield 23, 3) := by decide +kernel
theorem dX6_miss_22 : decode cX6_miss 22 = .ok (.iload_n 1, 1) := by decide +kernel
theorem dX6_miss_23 : decode cX6_miss 23 = .ok (.iconst 1, 1) := by decide +kernel
theorem dX6_miss_24 : decode cX6_miss 24 = .ok (.bastore, 1) := by decide +kernel
theorem dX6_miss_25 : decode cX6_miss 25 = .ok (.iconst 1, 1) := by decide +kernel
theorem dX6_miss_26 : decode cX6_miss 26 = .ok (.ireturn, 1) := by decide +kernel
theorem dX6_at_0 : decode cX6_at 0 = .ok (.aload_n 0, 1) := by decide +kernel
theorem dX6_at_1 : decode cX6_at 1 = .ok (.iconst 0, 1) := by decide +kernel
theorem dX6_at_2 : decode cX6_at 2 = .ok (.putfield 58, 3) := by decide +kernel
theorem dX6_at_5 : decode cX6_at 5 = .ok (.iload_n 1, 1) := by decide +kernel
theorem dX6_at_6 : decode cX6_at 6 = .ok (.ifCond .lt 30, 3) := by decide +kernel
theorem dX6_at_9 : decode cX6_at 9 = .ok (.iload_n 1, 1) := by decide +kernel
theorem dX6_at_10 : decode cX6_at 10 = .ok (.iconst 2, 1) := by decide +kernel
theorem dX6_at_11 : decode cX6_at 11 = .ok (.if_icmp .gt 25, 3) := by decide +kernel
theorem dX6_at_14 : decode cX6_at 14 = .ok (.aload_n 0, 1) := by decide +kernel
theorem dX6_at_15 : decode cX6_at 15 = .ok (.iload_n 2, 1) := by decide +kernel
theorem dX6_at_16 : decode cX6_at 16 = .ok (.invokevirtual 94, 3) := by decide +kernel
theorem dX6_at_19 : decode cX6_at 19 = .ok (.ifCond .eq 17, 3) := by decide +kernel
theorem dX6_at_22 : decode cX6_at 22 = .ok (.iload_n 1, 1) := by decide +kernel
theorem dX6_at_23 : decode cX6_at 23 = .ok (.iconst 2, 1) := by decide +kernel
theorem dX6_at_24 : decode cX6_at 24 = .ok (.if_icmp .ne 19, 3) := by decide +kernel
theorem dX6_at_27 : decode cX6_at 27 = .ok (.aload_n 0, 1) := by decide +kernel
theorem dX6_at_28 : decode cX6_at 28 = .ok (.getfield 23, 3) := by decide +kernel
theorem dX6_at_31 : decode cX6_at 31 = .ok (.iload_n 2, 1) := by decide +kernel
theorem dX6_at_32 : decode cX6_at 32 = .ok (.baload, 1) := by decide +kernel
theorem dX6_at_33 : decode cX6_at 33 = .ok (.ifCond .eq 10, 3) := by decide +kernel
theorem dX6_at_36 : decode cX6_at 36 = .ok (.aload_n 0, 1) := by decide +kernel
theorem dX6_at_37 : decode cX6_at 37 = .ok (.iconst 1, 1) := by decide +kernel
theorem dX6_at_38 : decode cX6_at 38 = .ok (.putfield 58, 3) := by decide +kernel
theorem dX6_at_41 : decode cX6_at 41 = .ok (.iconst 0, 1) := by decide +kernel
theorem dX6_at_42 : decode cX6_at 42 = .ok (.ireturn, 1) := by decide +kernel
theorem dX6_at_43 : decode cX6_at 43 = .ok (.iload_n 1, 1) := by decide +kernel
theorem dX6_at_44 : decode cX6_at 44 = .ok (.ifCond .ne 12, 3) := by decide +kernel
theorem dX6_at_47 : decode cX6_at 47 = .ok (.aload_n 0, 1) := by decide +kernel
theorem dX6_at_48 : decode cX6_at 48 = .ok (.getfield 13, 3) := by decide +kernel
theorem dX6_at_51 : decode cX6_at 51 = .ok (.iload_n 2, 1) := by decide +kernel
theorem dX6_at_52 : decode cX6_at 52 = .ok (.iaload, 1) := by decide +kernel
theorem dX6_at_53 : decode cX6_at 53 = .ok (.goto 23, 3) := by decide +kernel
theorem dX6_at_56 : decode cX6_at 56 = .ok (.iload_n 1, 1) := by decide +kernel
theorem dX6_at_57 : decode cX6_at 57 = .ok (.iconst 1, 1) := by decide +kernel
theorem dX6_at_58 : decode cX6_at 58 = .ok (.if_icmp .ne 12, 3) := by decide +kernel
theorem dX6_at_61 : decode cX6_at 61 = .ok (.aload_n 0, 1) := by decide +kernel
theorem dX6_at_62 : decode cX6_at 62 = .ok (.getfield 17, 3) := by decide +kernel
theorem dX6_at_65 : decode cX6_at 65 = .ok (.iload_n 2, 1) := by decide +kernel
theorem dX6_at_66 : decode cX6_at 66 = .ok (.iaload, 1) := by decide +kernel
theorem dX6_at_67 : decode cX6_at 67 = .ok (.goto 9, 3) := by decide +kernel
theorem dX6_at_70 : decode cX6_at 70 = .ok (.aload_n 0, 1) := by decide +kernel
theorem dX6_at_71 : decode cX6_at 71 = .ok (.getfield 20, 3) := by decide +kernel
theorem dX6_at_74 : decode cX6_at 74 = .ok (.iload_n 2, 1) := by decide +kernel
theorem dX6_at_75 : decode cX6_at 75 = .ok (.iaload, 1) := by decide +kernel
theorem dX6_at_76 : decode cX6_at 76 = .ok (.ireturn, 1) := by decide +kernel
theorem dX6_meetsAt_0 : decode cX6_meetsAt 0 = .ok (.iconst 0, 1) := by decide +kernel
theorem dX6_meetsAt_1 : decode cX6_meetsAt 1 = .ok (.istore_n 2, 1) := by decide +kernel
theorem dX6_meetsAt_2 : decode cX6_meetsAt 2 = .ok (.iconst 0, 1) := by decide +kernel
theorem dX6_meetsAt_3 : decode cX6_meetsAt 3 = .ok (.istore_n 3, 1) := by decide +kernel
theorem dX6_meetsAt_4 : decode cX6_meetsAt 4 = .ok (.iload_n 3, 1) := by decide +kernel
theorem dX6_meetsAt_5 : decode cX6_meetsAt 5 = .ok (.aload_n 0, 1) := by decide +kernel
theorem dX6_meetsAt_6 : decode cX6_meetsAt 6 = .ok (.getfield 7, 3) := by decide +kernel
theorem dX6_meetsAt_9 : decode cX6_meetsAt 9 = .ok (.if_icmp .ge 32, 3) := by decide +kernel
theorem dX6_meetsAt_12 : decode cX6_meetsAt 12 = .ok (.iload_n 2, 1) := by decide +kernel
theorem dX6_meetsAt_13 : decode cX6_meetsAt 13 = .ok (.aload_n 0, 1) := by decide +kernel
theorem dX6_meetsAt_14 : decode cX6_meetsAt 14 = .ok (.getfield 13, 3) := by decide +kernel
theorem dX6_meetsAt_17 : decode cX6_meetsAt 17 = .ok (.iload_n 3, 1) := by decide +kernel
theorem dX6_meetsAt_18 : decode cX6_meetsAt 18 = .ok (.iaload, 1) := by decide +kernel
theorem dX6_meetsAt_19 : decode cX6_meetsAt 19 = .ok (.aload_n 0, 1) := by decide +kernel
theorem dX6_meetsAt_20 : decode cX6_meetsAt 20 = .ok (.getfield 13, 3) := by decide +kernel
theorem dX6_meetsAt_23 : decode cX6_meetsAt 23 = .ok (.iload_n 3, 1) := by decide +kernel
theorem dX6_meetsAt_24 : decode cX6_meetsAt 24 = .ok (.iload_n 1, 1) := by decide +kernel
theorem dX6_meetsAt_25 : decode cX6_meetsAt 25 = .ok (.iadd, 1) := by decide +kernel
theorem dX6_meetsAt_26 : decode cX6_meetsAt 26 = .ok (.aload_n 0, 1) := by decide +kernel
theorem dX6_meetsAt_27 : decode cX6_meetsAt 27 = .ok (.getfield 7, 3) := by decide +kernel
theorem dX6_meetsAt_30 : decode cX6_meetsAt 30 = .ok (.irem, 1) := by decide +kernel
theorem dX6_meetsAt_31 : decode cX6_meetsAt 31 = .ok (.iaload, 1) := by decide +kernel
theorem dX6_meetsAt_32 : decode cX6_meetsAt 32 = .ok (.imul, 1) := by decide +kernel
theorem dX6_meetsAt_33 : decode cX6_meetsAt 33 = .ok (.iadd, 1) := by decide +kernel
theorem dX6_meetsAt_34 : decode cX6_meetsAt 34 = .ok (.istore_n 2, 1) := by decide +kernel
theorem dX6_meetsAt_35 : decode cX6_meetsAt 35 = .ok (.iinc 3 1, 3) := by decide +kernel
theorem dX6_meetsAt_38 : decode cX6_meetsAt 38 = .ok (.goto (-34), 3) := by decide +kernel
theorem dX6_meetsAt_41 : decode cX6_meetsAt 41 = .ok (.iload_n 2, 1) := by decide +kernel
theorem dX6_meetsAt_42 : decode cX6_meetsAt 42 = .ok (.ireturn, 1) := by decide +kernel
theorem dX6_firstOff_0 : decode cX6_firstOff 0 = .ok (.iconst 2, 1) := by decide +kernel
theorem dX6_firstOff_1 : decode cX6_firstOff 1 = .ok (.istore_n 1, 1) := by decide +kernel
theorem dX6_firstOff_2 : decode cX6_firstOff 2 = .ok (.iload_n 1, 1) := by decide +kernel
theorem dX6_firstOff_3 : decode cX6_firstOff 3 = .ok (.aload_n 0, 1) := by decide +kernel
theorem dX6_firstOff_4 : decode cX6_firstOff 4 = .ok (.getfield 7, 3) := by decide +kernel
theorem dX6_firstOff_7 : decode cX6_firstOff 7 = .ok (.if_icmp .ge 24, 3) := by decide +kernel
theorem dX6_firstOff_10 : decode cX6_firstOff 10 = .ok (.aload_n 0, 1) := by decide +kernel
theorem dX6_firstOff_11 : decode cX6_firstOff 11 = .ok (.iload_n 1, 1) := by decide +kernel
theorem dX6_firstOff_12 : decode cX6_firstOff 12 = .ok (.invokevirtual 97, 3) := by decide +kernel
theorem dX6_firstOff_15 : decode cX6_firstOff 15 = .ok (.aload_n 0, 1) := by decide +kernel
theorem dX6_firstOff_16 : decode cX6_firstOff 16 = .ok (.iconst 1, 1) := by decide +kernel
theorem dX6_firstOff_17 : decode cX6_firstOff 17 = .ok (.invokevirtual 97, 3) := by decide +kernel
theorem dX6_firstOff_20 : decode cX6_firstOff 20 = .ok (.if_icmp .eq 5, 3) := by decide +kernel
theorem dX6_firstOff_23 : decode cX6_firstOff 23 = .ok (.iload_n 1, 1) := by decide +kernel
theorem dX6_firstOff_24 : decode cX6_firstOff 24 = .ok (.ireturn, 1) := by decide +kernel
theorem dX6_firstOff_25 : decode cX6_firstOff 25 = .ok (.iinc 1 1, 3) := by decide +kernel
theorem dX6_firstOff_28 : decode cX6_firstOff 28 = .ok (.goto (-26), 3) := by decide +kernel
theorem dX6_firstOff_31 : decode cX6_firstOff 31 = .ok (.iconst (-1), 1) := by decide +kernel
theorem dX6_firstOff_32 : decode cX6_firstOff 32 = .ok (.ireturn, 1) := by decide +kernel
theorem dX6_count_0 : decode cX6_count 0 = .ok (.aload_n 0, 1) := by decide +kernel
theorem dX6_count_1 : decode cX6_count 1 = .ok (.invokevirtual 68, 3) := by decide +kernel
theorem dX6_count_4 : decode cX6_count 4 = .ok (.iconst 0, 1) := by decide +kernel
theorem dX6_count_5 : decode cX6_count 5 = .ok (.istore_n 2, 1) := by decide +kernel
theorem dX6_count_6 : decode cX6_count 6 = .ok (.iload_n 1, 1) := by decide +kernel
theorem dX6_count_7 : decode cX6_count 7 = .ok (.tableswitch 183 0 7 #[45, 50, 81, 112, 142, 156, 161, 178], 45) := by decide +kernel
theorem dX6_count_52 : decode cX6_count 52 = .ok (.aload_n 0, 1) := by decide +kernel
theorem dX6_count_53 : decode cX6_count 53 = .ok (.getfield 7, 3) := by decide +kernel
theorem dX6_count_56 : decode cX6_count 56 = .ok (.ireturn, 1) := by decide +kernel
theorem dX6_count_57 : decode cX6_count 57 = .ok (.iconst 0, 1) := by decide +kernel
theorem dX6_count_58 : decode cX6_count 58 = .ok (.istore_n 3, 1) := by decide +kernel
theorem dX6_count_59 : decode cX6_count 59 = .ok (.iload_n 3, 1) := by decide +kernel
theorem dX6_count_60 : decode cX6_count 60 = .ok (.aload_n 0, 1) := by decide +kernel
theorem dX6_count_61 : decode cX6_count 61 = .ok (.getfield 7, 3) := by decide +kernel
theorem dX6_count_64 : decode cX6_count 64 = .ok (.if_icmp .ge 22, 3) := by decide +kernel
theorem dX6_count_67 : decode cX6_count 67 = .ok (.aload_n 0, 1) := by decide +kernel
theorem dX6_count_68 : decode cX6_count 68 = .ok (.getfield 13, 3) := by decide +kernel
theorem dX6_count_71 : decode cX6_count 71 = .ok (.iload_n 3, 1) := by decide +kernel
theorem dX6_count_72 : decode cX6_count 72 = .ok (.iaload, 1) := by decide +kernel
theorem dX6_count_73 : decode cX6_count 73 = .ok (.iconst 1, 1) := by decide +kernel
theorem dX6_count_74 : decode cX6_count 74 = .ok (.if_icmp .ne 6, 3) := by decide +kernel
theorem dX6_count_77 : decode cX6_count 77 = .ok (.iinc 2 1, 3) := by decide +kernel
theorem dX6_count_80 : decode cX6_count 80 = .ok (.iinc 3 1, 3) := by decide +kernel
theorem dX6_count_83 : decode cX6_count 83 = .ok (.goto (-24), 3) := by decide +kernel
theorem dX6_count_86 : decode cX6_count 86 = .ok (.iload_n 2, 1) := by decide +kernel
theorem dX6_count_87 : decode cX6_count 87 = .ok (.ireturn, 1) := by decide +kernel
theorem dX6_count_88 : decode cX6_count 88 = .ok (.iconst 0, 1) := by decide +kernel
theorem dX6_count_89 : decode cX6_count 89 = .ok (.istore_n 3, 1) := by decide +kernel
theorem dX6_count_90 : decode cX6_count 90 = .ok (.iload_n 3, 1) := by decide +kernel
theorem dX6_count_91 : decode cX6_count 91 = .ok (.aload_n 0, 1) := by decide +kernel
theorem dX6_count_92 : decode cX6_count 92 = .ok (.getfield 7, 3) := by decide +kernel
theorem dX6_count_95 : decode cX6_count 95 = .ok (.if_icmp .ge 22, 3) := by decide +kernel
theorem dX6_count_98 : decode cX6_count 98 = .ok (.aload_n 0, 1) := by decide +kernel
theorem dX6_count_99 : decode cX6_count 99 = .ok (.getfield 13, 3) := by decide +kernel
theorem dX6_count_102 : decode cX6_count 102 = .ok (.iload_n 3, 1) := by decide +kernel
theorem dX6_count_103 : decode cX6_count 103 = .ok (.iaload, 1) := by decide +kernel
theorem dX6_count_104 : decode cX6_count 104 = .ok (.iconst (-1), 1) := by decide +kernel
theorem dX6_count_105 : decode cX6_count 105 = .ok (.if_icmp .ne 6, 3) := by decide +kernel
theorem dX6_count_108 : decode cX6_count 108 = .ok (.iinc 2 1, 3) := by decide +kernel
theorem dX6_count_111 : decode cX6_count 111 = .ok (.iinc 3 1, 3) := by decide +kernel
theorem dX6_count_114 : decode cX6_count 114 = .ok (.goto (-24), 3) := by decide +kernel
theorem dX6_count_117 : decode cX6_count 117 = .ok (.iload_n 2, 1) := by decide +kernel
theorem dX6_count_118 : decode cX6_count 118 = .ok (.ireturn, 1) := by decide +kernel
theorem dX6_count_119 : decode cX6_count 119 = .ok (.iconst 0, 1) := by decide +kernel
theorem dX6_count_120 : decode cX6_count 120 = .ok (.istore_n 3, 1) := by decide +kernel
theorem dX6_count_121 : decode cX6_count 121 = .ok (.iload_n 3, 1) := by decide +kernel
theorem dX6_count_122 : decode cX6_count 122 = .ok (.aload_n 0, 1) := by decide +kernel
theorem dX6_count_123 : decode cX6_count 123 = .ok (.getfield 7, 3) := by decide +kernel
theorem dX6_count_126 : decode cX6_count 126 = .ok (.if_icmp .ge 21, 3) := by decide +kernel
theorem dX6_count_129 : decode cX6_count 129 = .ok (.aload_n 0, 1) := by decide +kernel
theorem dX6_count_130 : decode cX6_count 130 = .ok (.getfield 23, 3) := by decide +kernel
theorem dX6_count_133 : decode cX6_count 133 = .ok (.iload_n 3, 1) := by decide +kernel
theorem dX6_count_134 : decode cX6_count 134 = .ok (.baload, 1) := by decide +kernel
theorem dX6_count_135 : decode cX6_count 135 = .ok (.ifCond .eq 6, 3) := by decide +kernel
theorem dX6_count_138 : decode cX6_count 138 = .ok (.iinc 2 1, 3) := by decide +kernel
theorem dX6_count_141 : decode cX6_count 141 = .ok (.iinc 3 1, 3) := by decide +kernel
theorem dX6_count_144 : decode cX6_count 144 = .ok (.goto (-23), 3) := by decide +kernel
theorem dX6_count_147 : decode cX6_count 147 = .ok (.iload_n 2, 1) := by decide +kernel
theorem dX6_count_148 : decode cX6_count 148 = .ok (.ireturn, 1) := by decide +kernel
theorem dX6_count_149 : decode cX6_count 149 = .ok (.aload_n 0, 1) := by decide +kernel
theorem dX6_count_150 : decode cX6_count 150 = .ok (.invokevirtual 100, 3) := by decide +kernel
theorem dX6_count_153 : decode cX6_count 153 = .ok (.iconst (-1), 1) := by decide +kernel
theorem dX6_count_154 : decode cX6_count 154 = .ok (.if_icmp .ne 7, 3) := by decide +kernel
theorem dX6_count_157 : decode cX6_count 157 = .ok (.iconst 1, 1) := by decide +kernel
theorem dX6_count_158 : decode cX6_count 158 = .ok (.goto 4, 3) := by decide +kernel
theorem dX6_count_161 : decode cX6_count 161 = .ok (.iconst 0, 1) := by decide +kernel
theorem dX6_count_162 : decode cX6_count 162 = .ok (.ireturn, 1) := by decide +kernel
theorem dX6_count_163 : decode cX6_count 163 = .ok (.aload_n 0, 1) := by decide +kernel
theorem dX6_count_164 : decode cX6_count 164 = .ok (.getfield 37, 3) := by decide +kernel
theorem dX6_count_167 : decode cX6_count 167 = .ok (.ireturn, 1) := by decide +kernel
theorem dX6_count_168 : decode cX6_count 168 = .ok (.aload_n 0, 1) := by decide +kernel
theorem dX6_count_169 : decode cX6_count 169 = .ok (.getfield 27, 3) := by decide +kernel
theorem dX6_count_172 : decode cX6_count 172 = .ok (.iconst (-1), 1) := by decide +kernel
theorem dX6_count_173 : decode cX6_count 173 = .ok (.if_icmp .ne 7, 3) := by decide +kernel
theorem dX6_count_176 : decode cX6_count 176 = .ok (.iconst (-1), 1) := by decide +kernel
theorem dX6_count_177 : decode cX6_count 177 = .ok (.goto 7, 3) := by decide +kernel
theorem dX6_count_180 : decode cX6_count 180 = .ok (.aload_n 0, 1) := by decide +kernel
theorem dX6_count_181 : decode cX6_count 181 = .ok (.getfield 83, 3) := by decide +kernel
theorem dX6_count_184 : decode cX6_count 184 = .ok (.ireturn, 1) := by decide +kernel
theorem dX6_count_185 : decode cX6_count 185 = .ok (.aload_n 0, 1) := by decide +kernel
theorem dX6_count_186 : decode cX6_count 186 = .ok (.getfield 104, 3) := by decide +kernel
theorem dX6_count_189 : decode cX6_count 189 = .ok (.ireturn, 1) := by decide +kernel
theorem dX6_count_190 : decode cX6_count 190 = .ok (.aload_n 0, 1) := by decide +kernel
theorem dX6_count_191 : decode cX6_count 191 = .ok (.iconst 1, 1) := by decide +kernel
theorem dX6_count_192 : decode cX6_count 192 = .ok (.invokevirtual 79, 3) := by decide +kernel
theorem dX6_count_195 : decode cX6_count 195 = .ok (.ireturn, 1) := by decide +kernel
theorem dX6_shadowAt_0 : decode cX6_shadowAt 0 = .ok (.iconst 0, 1) := by decide +kernel
theorem dX6_shadowAt_1 : decode cX6_shadowAt 1 = .ok (.istore_n 2, 1) := by decide +kernel
theorem dX6_shadowAt_2 : decode cX6_shadowAt 2 = .ok (.iconst 0, 1) := by decide +kernel
theorem dX6_shadowAt_3 : decode cX6_shadowAt 3 = .ok (.istore_n 3, 1) := by decide +kernel
theorem dX6_shadowAt_4 : decode cX6_shadowAt 4 = .ok (.iload_n 3, 1) := by decide +kernel
theorem dX6_shadowAt_5 : decode cX6_shadowAt 5 = .ok (.aload_n 0, 1) := by decide +kernel
theorem dX6_shadowAt_6 : decode cX6_shadowAt 6 = .ok (.getfield 7, 3) := by decide +kernel
theorem dX6_shadowAt_9 : decode cX6_shadowAt 9 = .ok (.if_icmp .ge 32, 3) := by decide +kernel
theorem dX6_shadowAt_12 : decode cX6_shadowAt 12 = .ok (.iload_n 2, 1) := by decide +kernel
theorem dX6_shadowAt_13 : decode cX6_shadowAt 13 = .ok (.aload_n 0, 1) := by decide +kernel
theorem dX6_shadowAt_14 : decode cX6_shadowAt 14 = .ok (.getfield 13, 3) := by decide +kernel
theorem dX6_shadowAt_17 : decode cX6_shadowAt 17 = .ok (.iload_n 3, 1) := by decide +kernel
theorem dX6_shadowAt_18 : decode cX6_shadowAt 18 = .ok (.iaload, 1) := by decide +kernel
theorem dX6_shadowAt_19 : decode cX6_shadowAt 19 = .ok (.aload_n 0, 1) := by decide +kernel
theorem dX6_shadowAt_20 : decode cX6_shadowAt 20 = .ok (.getfield 17, 3) := by decide +kernel
theorem dX6_shadowAt_23 : decode cX6_shadowAt 23 = .ok (.iload_n 1, 1) := by decide +kernel
theorem dX6_shadowAt_24 : decode cX6_shadowAt 24 = .ok (.iload_n 3, 1) := by decide +kernel
theorem dX6_shadowAt_25 : decode cX6_shadowAt 25 = .ok (.iadd, 1) := by decide +kernel
theorem dX6_shadowAt_26 : decode cX6_shadowAt 26 = .ok (.aload_n 0, 1) := by decide +kernel
theorem dX6_shadowAt_27 : decode cX6_shadowAt 27 = .ok (.getfield 7, 3) := by decide +kernel
theorem dX6_shadowAt_30 : decode cX6_shadowAt 30 = .ok (.irem, 1) := by decide +kernel
theorem dX6_shadowAt_31 : decode cX6_shadowAt 31 = .ok (.iaload, 1) := by decide +kernel
theorem dX6_shadowAt_32 : decode cX6_shadowAt 32 = .ok (.imul, 1) := by decide +kernel
theorem dX6_shadowAt_33 : decode cX6_shadowAt 33 = .ok (.iadd, 1) := by decide +kernel
theorem dX6_shadowAt_34 : decode cX6_shadowAt 34 = .ok (.istore_n 2, 1) := by decide +kernel
theorem dX6_shadowAt_35 : decode cX6_shadowAt 35 = .ok (.iinc 3 1, 3) := by decide +kernel
theorem dX6_shadowAt_38 : decode cX6_shadowAt 38 = .ok (.goto (-34), 3) := by decide +kernel
theorem dX6_shadowAt_41 : decode cX6_shadowAt 41 = .ok (.iload_n 2, 1) := by decide +kernel
theorem dX6_shadowAt_42 : decode cX6_shadowAt 42 = .ok (.ireturn, 1) := by decide +kernel
theorem dX6_shadow_0 : decode cX6_shadow 0 = .ok (.aload_n 0, 1) := by decide +kernel
theorem dX6_shadow_1 : decode cX6_shadow 1 = .ok (.invokevirtual 68, 3) := by decide +kernel
theorem dX6_shadow_4 : decode cX6_shadow 4 = .ok (.aload_n 0, 1) := by decide +kernel
theorem dX6_shadow_5 : decode cX6_shadow 5 = .ok (.iload_n 1, 1) := by decide +kernel
theorem dX6_shadow_6 : decode cX6_shadow 6 = .ok (.invokevirtual 94, 3) := by decide +kernel
theorem dX6_shadow_9 : decode cX6_shadow 9 = .ok (.ifCond .ne 11, 3) := by decide +kernel
theorem dX6_shadow_12 : decode cX6_shadow 12 = .ok (.aload_n 0, 1) := by decide +kernel
theorem dX6_shadow_13 : decode cX6_shadow 13 = .ok (.iconst 1, 1) := by decide +kernel
theorem dX6_shadow_14 : decode cX6_shadow 14 = .ok (.invokevirtual 79, 3) := by decide +kernel
theorem dX6_shadow_17 : decode cX6_shadow 17 = .ok (.pop, 1) := by decide +kernel
theorem dX6_shadow_18 : decode cX6_shadow 18 = .ok (.iconst 0, 1) := by decide +kernel
theorem dX6_shadow_19 : decode cX6_shadow 19 = .ok (.ireturn, 1) := by decide +kernel
theorem dX6_shadow_20 : decode cX6_shadow 20 = .ok (.aload_n 0, 1) := by decide +kernel
theorem dX6_shadow_21 : decode cX6_shadow 21 = .ok (.iload_n 1, 1) := by decide +kernel
theorem dX6_shadow_22 : decode cX6_shadow 22 = .ok (.invokevirtual 107, 3) := by decide +kernel
theorem dX6_shadow_25 : decode cX6_shadow 25 = .ok (.ireturn, 1) := by decide +kernel
theorem dX6_cast_0 : decode cX6_cast 0 = .ok (.aload_n 0, 1) := by decide +kernel
theorem dX6_cast_1 : decode cX6_cast 1 = .ok (.invokevirtual 68, 3) := by decide +kernel
theorem dX6_cast_4 : decode cX6_cast 4 = .ok (.iconst 0, 1) := by decide +kernel
theorem dX6_cast_5 : decode cX6_cast 5 = .ok (.istore_n 1, 1) := by decide +kernel
theorem dX6_cast_6 : decode cX6_cast 6 = .ok (.iload_n 1, 1) := by decide +kernel
theorem dX6_cast_7 : decode cX6_cast 7 = .ok (.aload_n 0, 1) := by decide +kernel
theorem dX6_cast_8 : decode cX6_cast 8 = .ok (.getfield 7, 3) := by decide +kernel
theorem dX6_cast_11 : decode cX6_cast 11 = .ok (.if_icmp .ge 20, 3) := by decide +kernel
theorem dX6_cast_14 : decode cX6_cast 14 = .ok (.aload_n 0, 1) := by decide +kernel
theorem dX6_cast_15 : decode cX6_cast 15 = .ok (.iconst 2, 1) := by decide +kernel
theorem dX6_cast_16 : decode cX6_cast 16 = .ok (.iload_n 1, 1) := by decide +kernel
theorem dX6_cast_17 : decode cX6_cast 17 = .ok (.aload_n 0, 1) := by decide +kernel
theorem dX6_cast_18 : decode cX6_cast 18 = .ok (.iload_n 1, 1) := by decide +kernel
theorem dX6_cast_19 : decode cX6_cast 19 = .ok (.invokevirtual 107, 3) := by decide +kernel
theorem dX6_cast_22 : decode cX6_cast 22 = .ok (.invokevirtual 90, 3) := by decide +kernel
theorem dX6_cast_25 : decode cX6_cast 25 = .ok (.iinc 1 1, 3) := by decide +kernel
theorem dX6_cast_28 : decode cX6_cast 28 = .ok (.goto (-22), 3) := by decide +kernel
theorem dX6_cast_31 : decode cX6_cast 31 = .ok (.iconst 1, 1) := by decide +kernel
theorem dX6_cast_32 : decode cX6_cast 32 = .ok (.ireturn, 1) := by decide +kernel
theorem dX6_meets_0 : decode cX6_meets 0 = .ok (.aload_n 0, 1) := by decide +kernel
theorem dX6_meets_1 : decode cX6_meets 1 = .ok (.invokevirtual 68, 3) := by decide +kernel
theorem dX6_meets_4 : decode cX6_meets 4 = .ok (.iload_n 1, 1) := by decide +kernel
theorem dX6_meets_5 : decode cX6_meets 5 = .ok (.ifCond .lt 11, 3) := by decide +kernel
theorem dX6_meets_8 : decode cX6_meets 8 = .ok (.iload_n 1, 1) := by decide +kernel
theorem dX6_meets_9 : decode cX6_meets 9 = .ok (.aload_n 0, 1) := by decide +kernel
theorem dX6_meets_10 : decode cX6_meets 10 = .ok (.getfield 7, 3) := by decide +kernel
theorem dX6_meets_13 : decode cX6_meets 13 = .ok (.if_icmp .lt 11, 3) := by decide +kernel
theorem dX6_meets_16 : decode cX6_meets 16 = .ok (.aload_n 0, 1) := by decide +kernel
theorem dX6_meets_17 : decode cX6_meets 17 = .ok (.iconst 1, 1) := by decide +kernel
theorem dX6_meets_18 : decode cX6_meets 18 = .ok (.invokevirtual 79, 3) := by decide +kernel
theorem dX6_meets_21 : decode cX6_meets 21 = .ok (.pop, 1) := by decide +kernel
theorem dX6_meets_22 : decode cX6_meets 22 = .ok (.iconst 0, 1) := by decide +kernel
theorem dX6_meets_23 : decode cX6_meets 23 = .ok (.ireturn, 1) := by decide +kernel
theorem dX6_meets_24 : decode cX6_meets 24 = .ok (.aload_n 0, 1) := by decide +kernel
theorem dX6_meets_25 : decode cX6_meets 25 = .ok (.iload_n 1, 1) := by decide +kernel
theorem dX6_meets_26 : decode cX6_meets 26 = .ok (.invokevirtual 97, 3) := by decide +kernel
theorem dX6_meets_29 : decode cX6_meets 29 = .ok (.ireturn, 1) := by decide +kernel
theorem dX6_off_0 : decode cX6_off 0 = .ok (.aload_n 0, 1) := by decide +kernel
theorem dX6_off_1 : decode cX6_off 1 = .ok (.invokevirtual 68, 3) := by decide +kernel
theorem dX6_off_4 : decode cX6_off 4 = .ok (.aload_n 0, 1) := by decide +kernel
theorem dX6_off_5 : decode cX6_off 5 = .ok (.invokevirtual 100, 3) := by decide +kernel
theorem dX6_off_8 : decode cX6_off 8 = .ok (.ireturn, 1) := by decide +kernel
theorem dX6_turn_0 : decode cX6_turn 0 = .ok (.aload_n 0, 1) := by decide +kernel
theorem dX6_turn_1 : decode cX6_turn 1 = .ok (.invokevirtual 68, 3) := by decide +kernel
theorem dX6_turn_4 : decode cX6_turn 4 = .ok (.iload_n 1, 1) := by decide +kernel
theorem dX6_turn_5 : decode cX6_turn 5 = .ok (.aload_n 0, 1) := by decide +kernel
theorem dX6_turn_6 : decode cX6_turn 6 = .ok (.getfield 7, 3) := by decide +kernel
theorem dX6_turn_9 : decode cX6_turn 9 = .ok (.irem, 1) := by decide +kernel
theorem dX6_turn_10 : decode cX6_turn 10 = .ok (.ifCond .ge 17, 3) := by decide +kernel
theorem dX6_turn_13 : decode cX6_turn 13 = .ok (.iload_n 1, 1) := by decide +kernel
theorem dX6_turn_14 : decode cX6_turn 14 = .ok (.aload_n 0, 1) := by decide +kernel
theorem dX6_turn_15 : decode cX6_turn 15 = .ok (.getfield 7, 3) := by decide +kernel
theorem dX6_turn_18 : decode cX6_turn 18 = .ok (.irem, 1) := by decide +kernel
theorem dX6_turn_19 : decode cX6_turn 19 = .ok (.aload_n 0, 1) := by decide +kernel
theorem dX6_turn_20 : decode cX6_turn 20 = .ok (.getfield 7, 3) := by decide +kernel
theorem dX6_turn_23 : decode cX6_turn 23 = .ok (.iadd, 1) := by decide +kernel
theorem dX6_turn_24 : decode cX6_turn 24 = .ok (.goto 9, 3) := by decide +kernel
theorem dX6_turn_27 : decode cX6_turn 27 = .ok (.iload_n 1, 1) := by decide +kernel
theorem dX6_turn_28 : decode cX6_turn 28 = .ok (.aload_n 0, 1) := by decide +kernel
theorem dX6_turn_29 : decode cX6_turn 29 = .ok (.getfield 7, 3) := by decide +kernel
theorem dX6_turn_32 : decode cX6_turn 32 = .ok (.irem, 1) := by decide +kernel
theorem dX6_turn_33 : decode cX6_turn 33 = .ok (.istore_n 2, 1) := by decide +kernel
theorem dX6_turn_34 : decode cX6_turn 34 = .ok (.iconst 0, 1) := by decide +kernel
theorem dX6_turn_35 : decode cX6_turn 35 = .ok (.istore_n 3, 1) := by decide +kernel
theorem dX6_turn_36 : decode cX6_turn 36 = .ok (.iload_n 3, 1) := by decide +kernel
theorem dX6_turn_37 : decode cX6_turn 37 = .ok (.aload_n 0, 1) := by decide +kernel
theorem dX6_turn_38 : decode cX6_turn 38 = .ok (.getfield 7, 3) := by decide +kernel
theorem dX6_turn_41 : decode cX6_turn 41 = .ok (.if_icmp .ge 21, 3) := by decide +kernel
theorem dX6_turn_44 : decode cX6_turn 44 = .ok (.aload_n 0, 1) := by decide +kernel
theorem dX6_turn_45 : decode cX6_turn 45 = .ok (.getfield 55, 3) := by decide +kernel
theorem dX6_turn_48 : decode cX6_turn 48 = .ok (.iload_n 3, 1) := by decide +kernel
theorem dX6_turn_49 : decode cX6_turn 49 = .ok (.aload_n 0, 1) := by decide +kernel
theorem dX6_turn_50 : decode cX6_turn 50 = .ok (.getfield 13, 3) := by decide +kernel
theorem dX6_turn_53 : decode cX6_turn 53 = .ok (.iload_n 3, 1) := by decide +kernel
theorem dX6_turn_54 : decode cX6_turn 54 = .ok (.iaload, 1) := by decide +kernel
theorem dX6_turn_55 : decode cX6_turn 55 = .ok (.iastore, 1) := by decide +kernel
theorem dX6_turn_56 : decode cX6_turn 56 = .ok (.iinc 3 1, 3) := by decide +kernel
theorem dX6_turn_59 : decode cX6_turn 59 = .ok (.goto (-23), 3) := by decide +kernel
theorem dX6_turn_62 : decode cX6_turn 62 = .ok (.iconst 0, 1) := by decide +kernel
theorem dX6_turn_63 : decode cX6_turn 63 = .ok (.istore_n 3, 1) := by decide +kernel
theorem dX6_turn_64 : decode cX6_turn 64 = .ok (.iload_n 3, 1) := by decide +kernel
theorem dX6_turn_65 : decode cX6_turn 65 = .ok (.aload_n 0, 1) := by decide +kernel
theorem dX6_turn_66 : decode cX6_turn 66 = .ok (.getfield 7, 3) := by decide +kernel
theorem dX6_turn_69 : decode cX6_turn 69 = .ok (.if_icmp .ge 28, 3) := by decide +kernel
theorem dX6_turn_72 : decode cX6_turn 72 = .ok (.aload_n 0, 1) := by decide +kernel
theorem dX6_turn_73 : decode cX6_turn 73 = .ok (.getfield 13, 3) := by decide +kernel
theorem dX6_turn_76 : decode cX6_turn 76 = .ok (.iload_n 3, 1) := by decide +kernel
theorem dX6_turn_77 : decode cX6_turn 77 = .ok (.aload_n 0, 1) := by decide +kernel
theorem dX6_turn_78 : decode cX6_turn 78 = .ok (.getfield 55, 3) := by decide +kernel
theorem dX6_turn_81 : decode cX6_turn 81 = .ok (.iload_n 3, 1) := by decide +kernel
theorem dX6_turn_82 : decode cX6_turn 82 = .ok (.iload_n 2, 1) := by decide +kernel
theorem dX6_turn_83 : decode cX6_turn 83 = .ok (.iadd, 1) := by decide +kernel
theorem dX6_turn_84 : decode cX6_turn 84 = .ok (.aload_n 0, 1) := by decide +kernel
theorem dX6_turn_85 : decode cX6_turn 85 = .ok (.getfield 7, 3) := by decide +kernel
theorem dX6_turn_88 : decode cX6_turn 88 = .ok (.irem, 1) := by decide +kernel
theorem dX6_turn_89 : decode cX6_turn 89 = .ok (.iaload, 1) := by decide +kernel
theorem dX6_turn_90 : decode cX6_turn 90 = .ok (.iastore, 1) := by decide +kernel
theorem dX6_turn_91 : decode cX6_turn 91 = .ok (.iinc 3 1, 3) := by decide +kernel
theorem dX6_turn_94 : decode cX6_turn 94 = .ok (.goto (-30), 3) := by decide +kernel
theorem dX6_turn_97 : decode cX6_turn 97 = .ok (.aload_n 0, 1) := by decide +kernel
theorem dX6_turn_98 : decode cX6_turn 98 = .ok (.lconst 0, 1) := by decide +kernel
theorem dX6_turn_99 : decode cX6_turn 99 = .ok (.putfield 64, 3) := by decide +kernel
theorem dX6_turn_102 : decode cX6_turn 102 = .ok (.iconst 1, 1) := by decide +kernel
theorem dX6_turn_103 : decode cX6_turn 103 = .ok (.ireturn, 1) := by decide +kernel
theorem dX6_anti_0 : decode cX6_anti 0 = .ok (.aload_n 0, 1) := by decide +kernel
theorem dX6_anti_1 : decode cX6_anti 1 = .ok (.invokevirtual 68, 3) := by decide +kernel
theorem dX6_anti_4 : decode cX6_anti 4 = .ok (.iconst 0, 1) := by decide +kernel
theorem dX6_anti_5 : decode cX6_anti 5 = .ok (.istore_n 1, 1) := by decide +kernel
theorem dX6_anti_6 : decode cX6_anti 6 = .ok (.iload_n 1, 1) := by decide +kernel
theorem dX6_anti_7 : decode cX6_anti 7 = .ok (.aload_n 0, 1) := by decide +kernel
theorem dX6_anti_8 : decode cX6_anti 8 = .ok (.getfield 7, 3) := by decide +kernel
theorem dX6_anti_11 : decode cX6_anti 11 = .ok (.if_icmp .ge 24, 3) := by decide +kernel
theorem dX6_anti_14 : decode cX6_anti 14 = .ok (.aload_n 0, 1) := by decide +kernel
theorem dX6_anti_15 : decode cX6_anti 15 = .ok (.getfield 13, 3) := by decide +kernel
theorem dX6_anti_18 : decode cX6_anti 18 = .ok (.iload_n 1, 1) := by decide +kernel
theorem dX6_anti_19 : decode cX6_anti 19 = .ok (.iaload, 1) := by decide +kernel
theorem dX6_anti_20 : decode cX6_anti 20 = .ok (.ifCond .ge 9, 3) := by decide +kernel
theorem dX6_anti_23 : decode cX6_anti 23 = .ok (.aload_n 0, 1) := by decide +kernel
theorem dX6_anti_24 : decode cX6_anti 24 = .ok (.iconst 1, 1) := by decide +kernel
theorem dX6_anti_25 : decode cX6_anti 25 = .ok (.invokevirtual 71, 3) := by decide +kernel
theorem dX6_anti_28 : decode cX6_anti 28 = .ok (.ireturn, 1) := by decide +kernel
theorem dX6_anti_29 : decode cX6_anti 29 = .ok (.iinc 1 1, 3) := by decide +kernel
theorem dX6_anti_32 : decode cX6_anti 32 = .ok (.goto (-26), 3) := by decide +kernel
theorem dX6_anti_35 : decode cX6_anti 35 = .ok (.iconst 0, 1) := by decide +kernel
theorem dX6_anti_36 : decode cX6_anti 36 = .ok (.istore_n 1, 1) := by decide +kernel
theorem dX6_anti_37 : decode cX6_anti 37 = .ok (.iload_n 1, 1) := by decide +kernel
theorem dX6_anti_38 : decode cX6_anti 38 = .ok (.aload_n 0, 1) := by decide +kernel
theorem dX6_anti_39 : decode cX6_anti 39 = .ok (.getfield 7, 3) := by decide +kernel
theorem dX6_anti_42 : decode cX6_anti 42 = .ok (.if_icmp .ge 23, 3) := by decide +kernel
theorem dX6_anti_45 : decode cX6_anti 45 = .ok (.aload_n 0, 1) := by decide +kernel
theorem dX6_anti_46 : decode cX6_anti 46 = .ok (.getfield 13, 3) := by decide +kernel
theorem dX6_anti_49 : decode cX6_anti 49 = .ok (.iload_n 1, 1) := by decide +kernel
theorem dX6_anti_50 : decode cX6_anti 50 = .ok (.iconst 1, 1) := by decide +kernel
theorem dX6_anti_51 : decode cX6_anti 51 = .ok (.aload_n 0, 1) := by decide +kernel
theorem dX6_anti_52 : decode cX6_anti 52 = .ok (.getfield 13, 3) := by decide +kernel
theorem dX6_anti_55 : decode cX6_anti 55 = .ok (.iload_n 1, 1) := by decide +kernel
theorem dX6_anti_56 : decode cX6_anti 56 = .ok (.iaload, 1) := by decide +kernel
theorem dX6_anti_57 : decode cX6_anti 57 = .ok (.isub, 1) := by decide +kernel
theorem dX6_anti_58 : decode cX6_anti 58 = .ok (.iastore, 1) := by decide +kernel
theorem dX6_anti_59 : decode cX6_anti 59 = .ok (.iinc 1 1, 3) := by decide +kernel
theorem dX6_anti_62 : decode cX6_anti 62 = .ok (.goto (-25), 3) := by decide +kernel
theorem dX6_anti_65 : decode cX6_anti 65 = .ok (.aload_n 0, 1) := by decide +kernel
theorem dX6_anti_66 : decode cX6_anti 66 = .ok (.lconst 0, 1) := by decide +kernel
theorem dX6_anti_67 : decode cX6_anti 67 = .ok (.putfield 64, 3) := by decide +kernel
theorem dX6_anti_70 : decode cX6_anti 70 = .ok (.iconst 1, 1) := by decide +kernel
theorem dX6_anti_71 : decode cX6_anti 71 = .ok (.ireturn, 1) := by decide +kernel
theorem dX6_common_0 : decode cX6_common 0 = .ok (.iload_n 0, 1) := by decide +kernel
theorem dX6_common_1 : decode cX6_common 1 = .ok (.istore_n 2, 1) := by decide +kernel
theorem dX6_common_2 : decode cX6_common 2 = .ok (.iload_n 1, 1) := by decide +kernel
theorem dX6_common_3 : decode cX6_common 3 = .ok (.istore_n 3, 1) := by decide +kernel
theorem dX6_common_4 : decode cX6_common 4 = .ok (.iload_n 3, 1) := by decide +kernel
theorem dX6_common_5 : decode cX6_common 5 = .ok (.ifCond .eq 16, 3) := by decide +kernel
theorem dX6_common_8 : decode cX6_common 8 = .ok (.iload_n 2, 1) := by decide +kernel
theorem dX6_common_9 : decode cX6_common 9 = .ok (.iload_n 3, 1) := by decide +kernel
theorem dX6_common_10 : decode cX6_common 10 = .ok (.irem, 1) := by decide +kernel
theorem dX6_common_11 : decode cX6_common 11 = .ok (.istore 4, 2) := by decide +kernel
theorem dX6_common_13 : decode cX6_common 13 = .ok (.iload_n 3, 1) := by decide +kernel
theorem dX6_common_14 : decode cX6_common 14 = .ok (.istore_n 2, 1) := by decide +kernel
theorem dX6_common_15 : decode cX6_common 15 = .ok (.iload 4, 2) := by decide +kernel
theorem dX6_common_17 : decode cX6_common 17 = .ok (.istore_n 3, 1) := by decide +kernel
theorem dX6_common_18 : decode cX6_common 18 = .ok (.goto (-14), 3) := by decide +kernel
theorem dX6_common_21 : decode cX6_common 21 = .ok (.iload_n 2, 1) := by decide +kernel
theorem dX6_common_22 : decode cX6_common 22 = .ok (.ireturn, 1) := by decide +kernel
theorem dX6_fold_0 : decode cX6_fold 0 = .ok (.aload_n 0, 1) := by decide +kernel
theorem dX6_fold_1 : decode cX6_fold 1 = .ok (.invokevirtual 68, 3) := by decide +kernel
theorem dX6_fold_4 : decode cX6_fold 4 = .ok (.iload_n 1, 1) := by decide +kernel
theorem dX6_fold_5 : decode cX6_fold 5 = .ok (.iconst 1, 1) := by decide +kernel
theorem dX6_fold_6 : decode cX6_fold 6 = .ok (.if_icmp .lt 63, 3) := by decide +kernel
theorem dX6_fold_9 : decode cX6_fold 9 = .ok (.iload_n 2, 1) := by decide +kernel
theorem dX6_fold_10 : decode cX6_fold 10 = .ok (.iconst 1, 1) := by decide +kernel
theorem dX6_fold_11 : decode cX6_fold 11 = .ok (.if_icmp .lt 58, 3) := by decide +kernel
theorem dX6_fold_14 : decode cX6_fold 14 = .ok (.iload_n 1, 1) := by decide +kernel
theorem dX6_fold_15 : decode cX6_fold 15 = .ok (.aload_n 0, 1) := by decide +kernel
theorem dX6_fold_16 : decode cX6_fold 16 = .ok (.getfield 7, 3) := by decide +kernel
theorem dX6_fold_19 : decode cX6_fold 19 = .ok (.if_icmp .gt 50, 3) := by decide +kernel
theorem dX6_fold_22 : decode cX6_fold 22 = .ok (.iload_n 2, 1) := by decide +kernel
theorem dX6_fold_23 : decode cX6_fold 23 = .ok (.aload_n 0, 1) := by decide +kernel
theorem dX6_fold_24 : decode cX6_fold 24 = .ok (.getfield 7, 3) := by decide +kernel
theorem dX6_fold_27 : decode cX6_fold 27 = .ok (.if_icmp .gt 42, 3) := by decide +kernel
theorem dX6_fold_30 : decode cX6_fold 30 = .ok (.iload_n 1, 1) := by decide +kernel
theorem dX6_fold_31 : decode cX6_fold 31 = .ok (.iload_n 2, 1) := by decide +kernel
theorem dX6_fold_32 : decode cX6_fold 32 = .ok (.imul, 1) := by decide +kernel
theorem dX6_fold_33 : decode cX6_fold 33 = .ok (.aload_n 0, 1) := by decide +kernel
theorem dX6_fold_34 : decode cX6_fold 34 = .ok (.getfield 7, 3) := by decide +kernel
theorem dX6_fold_37 : decode cX6_fold 37 = .ok (.if_icmp .ne 32, 3) := by decide +kernel
theorem dX6_fold_40 : decode cX6_fold 40 = .ok (.iload_n 1, 1) := by decide +kernel
theorem dX6_fold_41 : decode cX6_fold 41 = .ok (.iload_n 2, 1) := by decide +kernel
theorem dX6_fold_42 : decode cX6_fold 42 = .ok (.invokestatic 110, 3) := by decide +kernel
theorem dX6_fold_45 : decode cX6_fold 45 = .ok (.iconst 1, 1) := by decide +kernel
theorem dX6_fold_46 : decode cX6_fold 46 = .ok (.if_icmp .gt 23, 3) := by decide +kernel
theorem dX6_fold_49 : decode cX6_fold 49 = .ok (.iload_n 3, 1) := by decide +kernel
theorem dX6_fold_50 : decode cX6_fold 50 = .ok (.ifCond .lt 19, 3) := by decide +kernel
theorem dX6_fold_53 : decode cX6_fold 53 = .ok (.iload_n 3, 1) := by decide +kernel
theorem dX6_fold_54 : decode cX6_fold 54 = .ok (.iload_n 1, 1) := by decide +kernel
theorem dX6_fold_55 : decode cX6_fold 55 = .ok (.if_icmp .ge 14, 3) := by decide +kernel
theorem dX6_fold_58 : decode cX6_fold 58 = .ok (.iload 4, 2) := by decide +kernel
theorem dX6_fold_60 : decode cX6_fold 60 = .ok (.ifCond .lt 9, 3) := by decide +kernel
theorem dX6_fold_63 : decode cX6_fold 63 = .ok (.iload 4, 2) := by decide +kernel
theorem dX6_fold_65 : decode cX6_fold 65 = .ok (.iload_n 2, 1) := by decide +kernel
theorem dX6_fold_66 : decode cX6_fold 66 = .ok (.if_icmp .lt 11, 3) := by decide +kernel
theorem dX6_fold_69 : decode cX6_fold 69 = .ok (.aload_n 0, 1) := by decide +kernel
theorem dX6_fold_70 : decode cX6_fold 70 = .ok (.iconst 1, 1) := by decide +kernel
theorem dX6_fold_71 : decode cX6_fold 71 = .ok (.invokevirtual 79, 3) := by decide +kernel
theorem dX6_fold_74 : decode cX6_fold 74 = .ok (.pop, 1) := by decide +kernel
theorem dX6_fold_75 : decode cX6_fold 75 = .ok (.iconst 0, 1) := by decide +kernel
theorem dX6_fold_76 : decode cX6_fold 76 = .ok (.ireturn, 1) := by decide +kernel
theorem dX6_fold_77 : decode cX6_fold 77 = .ok (.iconst 0, 1) := by decide +kernel
theorem dX6_fold_78 : decode cX6_fold 78 = .ok (.istore 5, 2) := by decide +kernel
theorem dX6_fold_80 : decode cX6_fold 80 = .ok (.iload 5, 2) := by decide +kernel
theorem dX6_fold_82 : decode cX6_fold 82 = .ok (.iload_n 1, 1) := by decide +kernel
theorem dX6_fold_83 : decode cX6_fold 83 = .ok (.irem, 1) := by decide +kernel
theorem dX6_fold_84 : decode cX6_fold 84 = .ok (.iload_n 3, 1) := by decide +kernel
theorem dX6_fold_85 : decode cX6_fold 85 = .ok (.if_icmp .ne 12, 3) := by decide +kernel
theorem dX6_fold_88 : decode cX6_fold 88 = .ok (.iload 5, 2) := by decide +kernel
theorem dX6_fold_90 : decode cX6_fold 90 = .ok (.iload_n 2, 1) := by decide +kernel
theorem dX6_fold_91 : decode cX6_fold 91 = .ok (.irem, 1) := by decide +kernel
theorem dX6_fold_92 : decode cX6_fold 92 = .ok (.iload 4, 2) := by decide +kernel
theorem dX6_fold_94 : decode cX6_fold 94 = .ok (.if_icmp .eq 9, 3) := by decide +kernel
theorem dX6_fold_97 : decode cX6_fold 97 = .ok (.iinc 5 1, 3) := by decide +kernel
theorem dX6_fold_100 : decode cX6_fold 100 = .ok (.goto (-20), 3) := by decide +kernel
theorem dX6_fold_103 : decode cX6_fold 103 = .ok (.aload_n 0, 1) := by decide +kernel
theorem dX6_fold_104 : decode cX6_fold 104 = .ok (.getfield 13, 3) := by decide +kernel
theorem dX6_fold_107 : decode cX6_fold 107 = .ok (.iload 5, 2) := by decide +kernel
theorem dX6_fold_109 : decode cX6_fold 109 = .ok (.iaload, 1) := by decide +kernel
theorem dX6_fold_110 : decode cX6_fold 110 = .ok (.ireturn, 1) := by decide +kernel
theorem dX6_isPrime_0 : decode cX6_isPrime 0 = .ok (.iconst 2, 1) := by decide +kernel
theorem dX6_isPrime_1 : decode cX6_isPrime 1 = .ok (.istore_n 1, 1) := by decide +kernel
theorem dX6_isPrime_2 : decode cX6_isPrime 2 = .ok (.iload_n 1, 1) := by decide +kernel
theorem dX6_isPrime_3 : decode cX6_isPrime 3 = .ok (.iload_n 0, 1) := by decide +kernel
theorem dX6_isPrime_4 : decode cX6_isPrime 4 = .ok (.if_icmp .ge 17, 3) := by decide +kernel
theorem dX6_isPrime_7 : decode cX6_isPrime 7 = .ok (.iload_n 0, 1) := by decide +kernel
theorem dX6_isPrime_8 : decode cX6_isPrime 8 = .ok (.iload_n 1, 1) := by decide +kernel
theorem dX6_isPrime_9 : decode cX6_isPrime 9 = .ok (.irem, 1) := by decide +kernel
theorem dX6_isPrime_10 : decode cX6_isPrime 10 = .ok (.ifCond .ne 5, 3) := by decide +kernel
theorem dX6_isPrime_13 : decode cX6_isPrime 13 = .ok (.iconst 0, 1) := by decide +kernel
theorem dX6_isPrime_14 : decode cX6_isPrime 14 = .ok (.ireturn, 1) := by decide +kernel
theorem dX6_isPrime_15 : decode cX6_isPrime 15 = .ok (.iinc 1 1, 3) := by decide +kernel
theorem dX6_isPrime_18 : decode cX6_isPrime 18 = .ok (.goto (-16), 3) := by decide +kernel
theorem dX6_isPrime_21 : decode cX6_isPrime 21 = .ok (.iload_n 0, 1) := by decide +kernel
theorem dX6_isPrime_22 : decode cX6_isPrime 22 = .ok (.iconst 1, 1) := by decide +kernel
theorem dX6_isPrime_23 : decode cX6_isPrime 23 = .ok (.if_icmp .le 7, 3) := by decide +kernel
theorem dX6_isPrime_26 : decode cX6_isPrime 26 = .ok (.iconst 1, 1) := by decide +kernel
theorem dX6_isPrime_27 : decode cX6_isPrime 27 = .ok (.goto 4, 3) := by decide +kernel
theorem dX6_isPrime_30 : decode cX6_isPrime 30 = .ok (.iconst 0, 1) := by decide +kernel
theorem dX6_isPrime_31 : decode cX6_isPrime 31 = .ok (.ireturn, 1) := by decide +kernel
theorem dX6_isSquare_0 : decode cX6_isSquare 0 = .ok (.iload_n 0, 1) := by decide +kernel
theorem dX6_isSquare_1 : decode cX6_isSquare 1 = .ok (.iload_n 1, 1) := by decide +kernel
theorem dX6_isSquare_2 : decode cX6_isSquare 2 = .ok (.irem, 1) := by decide +kernel
theorem dX6_isSquare_3 : decode cX6_isSquare 3 = .ok (.iload_n 1, 1) := by decide +kernel
theorem dX6_isSquare_4 : decode cX6_isSquare 4 = .ok (.iadd, 1) := by decide +kernel
theorem dX6_isSquare_5 : decode cX6_isSquare 5 = .ok (.iload_n 1, 1) := by decide +kernel
theorem dX6_isSquare_6 : decode cX6_isSquare 6 = .ok (.irem, 1) := by decide +kernel
theorem dX6_isSquare_7 : decode cX6_isSquare 7 = .ok (.istore_n 2, 1) := by decide +kernel
theorem dX6_isSquare_8 : decode cX6_isSquare 8 = .ok (.iconst 1, 1) := by decide +kernel
theorem dX6_isSquare_9 : decode cX6_isSquare 9 = .ok (.istore_n 3, 1) := by decide +kernel
theorem dX6_isSquare_10 : decode cX6_isSquare 10 = .ok (.iload_n 3, 1) := by decide +kernel
theorem dX6_isSquare_11 : decode cX6_isSquare 11 = .ok (.iload_n 1, 1) := by decide +kernel
theorem dX6_isSquare_12 : decode cX6_isSquare 12 = .ok (.if_icmp .ge 28, 3) := by decide +kernel
theorem dX6_isSquare_15 : decode cX6_isSquare 15 = .ok (.iload_n 3, 1) := by decide +kernel
theorem dX6_isSquare_16 : decode cX6_isSquare 16 = .ok (.iload_n 3, 1) := by decide +kernel
theorem dX6_isSquare_17 : decode cX6_isSquare 17 = .ok (.imul, 1) := by decide +kernel
theorem dX6_isSquare_18 : decode cX6_isSquare 18 = .ok (.iload_n 1, 1) := by decide +kernel
theorem dX6_isSquare_19 : decode cX6_isSquare 19 = .ok (.irem, 1) := by decide +kernel
theorem dX6_isSquare_20 : decode cX6_isSquare 20 = .ok (.iload_n 2, 1) := by decide +kernel
theorem dX6_isSquare_21 : decode cX6_isSquare 21 = .ok (.if_icmp .ne 13, 3) := by decide +kernel
theorem dX6_isSquare_24 : decode cX6_isSquare 24 = .ok (.iload_n 2, 1) := by decide +kernel
theorem dX6_isSquare_25 : decode cX6_isSquare 25 = .ok (.ifCond .eq 7, 3) := by decide +kernel
theorem dX6_isSquare_28 : decode cX6_isSquare 28 = .ok (.iconst 1, 1) := by decide +kernel
theorem dX6_isSquare_29 : decode cX6_isSquare 29 = .ok (.goto 4, 3) := by decide +kernel
theorem dX6_isSquare_32 : decode cX6_isSquare 32 = .ok (.iconst 0, 1) := by decide +kernel
theorem dX6_isSquare_33 : decode cX6_isSquare 33 = .ok (.ireturn, 1) := by decide +kernel
theorem dX6_isSquare_34 : decode cX6_isSquare 34 = .ok (.iinc 3 1, 3) := by decide +kernel
theorem dX6_isSquare_37 : decode cX6_isSquare 37 = .ok (.goto (-27), 3) := by decide +kernel
theorem dX6_isSquare_40 : decode cX6_isSquare 40 = .ok (.iconst 0, 1) := by decide +kernel
theorem dX6_isSquare_41 : decode cX6_isSquare 41 = .ok (.ireturn, 1) := by decide +kernel
theorem dX6_holes_0 : decode cX6_holes 0 = .ok (.iconst 0, 1) := by decide +kernel
theorem dX6_holes_1 : decode cX6_holes 1 = .ok (.istore_n 1, 1) := by decide +kernel
theorem dX6_holes_2 : decode cX6_holes 2 = .ok (.iconst 0, 1) := by decide +kernel
theorem dX6_holes_3 : decode cX6_holes 3 = .ok (.istore_n 2, 1) := by decide +kernel
theorem dX6_holes_4 : decode cX6_holes 4 = .ok (.iload_n 2, 1) := by decide +kernel
theorem dX6_holes_5 : decode cX6_holes 5 = .ok (.aload_n 0, 1) := by decide +kernel
theorem dX6_holes_6 : decode cX6_holes 6 = .ok (.getfield 7, 3) := by decide +kernel
theorem dX6_holes_9 : decode cX6_holes 9 = .ok (.if_icmp .ge 27, 3) := by decide +kernel
theorem dX6_holes_12 : decode cX6_holes 12 = .ok (.iload_n 1, 1) := by decide +kernel
theorem dX6_holes_13 : decode cX6_holes 13 = .ok (.aload_n 0, 1) := by decide +kernel
theorem dX6_holes_14 : decode cX6_holes 14 = .ok (.getfield 13, 3) := by decide +kernel
theorem dX6_holes_17 : decode cX6_holes 17 = .ok (.iload_n 2, 1) := by decide +kernel
theorem dX6_holes_18 : decode cX6_holes 18 = .ok (.iaload, 1) := by decide +kernel
theorem dX6_holes_19 : decode cX6_holes 19 = .ok (.iconst 1, 1) := by decide +kernel
theorem dX6_holes_20 : decode cX6_holes 20 = .ok (.if_icmp .ne 7, 3) := by decide +kernel
theorem dX6_holes_23 : decode cX6_holes 23 = .ok (.iconst 1, 1) := by decide +kernel
theorem dX6_holes_24 : decode cX6_holes 24 = .ok (.goto 4, 3) := by decide +kernel
theorem dX6_holes_27 : decode cX6_holes 27 = .ok (.iconst 0, 1) := by decide +kernel
theorem dX6_holes_28 : decode cX6_holes 28 = .ok (.iadd, 1) := by decide +kernel
theorem dX6_holes_29 : decode cX6_holes 29 = .ok (.istore_n 1, 1) := by decide +kernel
theorem dX6_holes_30 : decode cX6_holes 30 = .ok (.iinc 2 1, 3) := by decide +kernel
theorem dX6_holes_33 : decode cX6_holes 33 = .ok (.goto (-29), 3) := by decide +kernel
theorem dX6_holes_36 : decode cX6_holes 36 = .ok (.iload_n 1, 1) := by decide +kernel
theorem dX6_holes_37 : decode cX6_holes 37 = .ok (.ireturn, 1) := by decide +kernel
theorem dX6_rests_0 : decode cX6_rests 0 = .ok (.aload_n 0, 1) := by decide +kernel
theorem dX6_rests_1 : decode cX6_rests 1 = .ok (.invokevirtual 68, 3) := by decide +kernel
theorem dX6_rests_4 : decode cX6_rests 4 = .ok (.iload_n 1, 1) := by decide +kernel
theorem dX6_rests_5 : decode cX6_rests 5 = .ok (.iconst 3, 1) := by decide +kernel
theorem dX6_rests_6 : decode cX6_rests 6 = .ok (.if_icmp .lt 23, 3) := by decide +kernel
theorem dX6_rests_9 : decode cX6_rests 9 = .ok (.iload_n 1, 1) := by decide +kernel
theorem dX6_rests_10 : decode cX6_rests 10 = .ok (.bipush 59, 2) := by decide +kernel
theorem dX6_rests_12 : decode cX6_rests 12 = .ok (.if_icmp .gt 17, 3) := by decide +kernel
theorem dX6_rests_15 : decode cX6_rests 15 = .ok (.iload_n 1, 1) := by decide +kernel
theorem dX6_rests_16 : decode cX6_rests 16 = .ok (.iconst 4, 1) := by decide +kernel
theorem dX6_rests_17 : decode cX6_rests 17 = .ok (.irem, 1) := by decide +kernel
theorem dX6_rests_18 : decode cX6_rests 18 = .ok (.iconst 3, 1) := by decide +kernel
theorem dX6_rests_19 : decode cX6_rests 19 = .ok (.if_icmp .ne 10, 3) := by decide +kernel
theorem dX6_rests_22 : decode cX6_rests 22 = .ok (.iload_n 1, 1) := by decide +kernel
theorem dX6_rests_23 : decode cX6_rests 23 = .ok (.invokestatic 114, 3) := by decide +kernel
theorem dX6_rests_26 : decode cX6_rests 26 = .ok (.ifCond .ne 9, 3) := by decide +kernel
theorem dX6_rests_29 : decode cX6_rests 29 = .ok (.aload_n 0, 1) := by decide +kernel
theorem dX6_rests_30 : decode cX6_rests 30 = .ok (.iconst 1, 1) := by decide +kernel
theorem dX6_rests_31 : decode cX6_rests 31 = .ok (.invokevirtual 79, 3) := by decide +kernel
theorem dX6_rests_34 : decode cX6_rests 34 = .ok (.ireturn, 1) := by decide +kernel
theorem dX6_rests_35 : decode cX6_rests 35 = .ok (.aload_n 0, 1) := by decide +kernel
theorem dX6_rests_36 : decode cX6_rests 36 = .ok (.iload_n 1, 1) := by decide +kernel
theorem dX6_rests_37 : decode cX6_rests 37 = .ok (.invokevirtual 75, 3) := by decide +kernel
theorem dX6_rests_40 : decode cX6_rests 40 = .ok (.iconst 0, 1) := by decide +kernel
theorem dX6_rests_41 : decode cX6_rests 41 = .ok (.istore_n 2, 1) := by decide +kernel
theorem dX6_rests_42 : decode cX6_rests 42 = .ok (.iload_n 2, 1) := by decide +kernel
theorem dX6_rests_43 : decode cX6_rests 43 = .ok (.iload_n 1, 1) := by decide +kernel
theorem dX6_rests_44 : decode cX6_rests 44 = .ok (.if_icmp .ge 28, 3) := by decide +kernel
theorem dX6_rests_47 : decode cX6_rests 47 = .ok (.aload_n 0, 1) := by decide +kernel
theorem dX6_rests_48 : decode cX6_rests 48 = .ok (.getfield 13, 3) := by decide +kernel
theorem dX6_rests_51 : decode cX6_rests 51 = .ok (.iload_n 2, 1) := by decide +kernel
theorem dX6_rests_52 : decode cX6_rests 52 = .ok (.iload_n 2, 1) := by decide +kernel
theorem dX6_rests_53 : decode cX6_rests 53 = .ok (.iload_n 1, 1) := by decide +kernel
theorem dX6_rests_54 : decode cX6_rests 54 = .ok (.invokestatic 117, 3) := by decide +kernel
theorem dX6_rests_57 : decode cX6_rests 57 = .ok (.ifCond .eq 7, 3) := by decide +kernel
theorem dX6_rests_60 : decode cX6_rests 60 = .ok (.iconst 1, 1) := by decide +kernel
theorem dX6_rests_61 : decode cX6_rests 61 = .ok (.goto 4, 3) := by decide +kernel
theorem dX6_rests_64 : decode cX6_rests 64 = .ok (.iconst 0, 1) := by decide +kernel
theorem dX6_rests_65 : decode cX6_rests 65 = .ok (.iastore, 1) := by decide +kernel
theorem dX6_rests_66 : decode cX6_rests 66 = .ok (.iinc 2 1, 3) := by decide +kernel
theorem dX6_rests_69 : decode cX6_rests 69 = .ok (.goto (-27), 3) := by decide +kernel
theorem dX6_rests_72 : decode cX6_rests 72 = .ok (.aload_n 0, 1) := by decide +kernel
theorem dX6_rests_73 : decode cX6_rests 73 = .ok (.invokevirtual 121, 3) := by decide +kernel
theorem dX6_rests_76 : decode cX6_rests 76 = .ok (.ireturn, 1) := by decide +kernel
theorem dX6_twins_0 : decode cX6_twins 0 = .ok (.aload_n 0, 1) := by decide +kernel
theorem dX6_twins_1 : decode cX6_twins 1 = .ok (.invokevirtual 68, 3) := by decide +kernel
theorem dX6_twins_4 : decode cX6_twins 4 = .ok (.iload_n 1, 1) := by decide +kernel
theorem dX6_twins_5 : decode cX6_twins 5 = .ok (.iconst 3, 1) := by decide +kernel
theorem dX6_twins_6 : decode cX6_twins 6 = .ok (.if_icmp .eq 14, 3) := by decide +kernel
theorem dX6_twins_9 : decode cX6_twins 9 = .ok (.iload_n 1, 1) := by decide +kernel
theorem dX6_twins_10 : decode cX6_twins 10 = .ok (.iconst 5, 1) := by decide +kernel
theorem dX6_twins_11 : decode cX6_twins 11 = .ok (.if_icmp .eq 9, 3) := by decide +kernel
theorem dX6_twins_14 : decode cX6_twins 14 = .ok (.aload_n 0, 1) := by decide +kernel
theorem dX6_twins_15 : decode cX6_twins 15 = .ok (.iconst 1, 1) := by decide +kernel
theorem dX6_twins_16 : decode cX6_twins 16 = .ok (.invokevirtual 79, 3) := by decide +kernel
theorem dX6_twins_19 : decode cX6_twins 19 = .ok (.ireturn, 1) := by decide +kernel
theorem dX6_twins_20 : decode cX6_twins 20 = .ok (.iload_n 1, 1) := by decide +kernel
theorem dX6_twins_21 : decode cX6_twins 21 = .ok (.iconst 2, 1) := by decide +kernel
theorem dX6_twins_22 : decode cX6_twins 22 = .ok (.iadd, 1) := by decide +kernel
theorem dX6_twins_23 : decode cX6_twins 23 = .ok (.istore_n 2, 1) := by decide +kernel
theorem dX6_twins_24 : decode cX6_twins 24 = .ok (.aload_n 0, 1) := by decide +kernel
theorem dX6_twins_25 : decode cX6_twins 25 = .ok (.iload_n 1, 1) := by decide +kernel
theorem dX6_twins_26 : decode cX6_twins 26 = .ok (.iload_n 2, 1) := by decide +kernel
theorem dX6_twins_27 : decode cX6_twins 27 = .ok (.imul, 1) := by decide +kernel
theorem dX6_twins_28 : decode cX6_twins 28 = .ok (.invokevirtual 75, 3) := by decide +kernel
theorem dX6_twins_31 : decode cX6_twins 31 = .ok (.iconst 0, 1) := by decide +kernel
theorem dX6_twins_32 : decode cX6_twins 32 = .ok (.istore_n 3, 1) := by decide +kernel
theorem dX6_twins_33 : decode cX6_twins 33 = .ok (.iload_n 3, 1) := by decide +kernel
theorem dX6_twins_34 : decode cX6_twins 34 = .ok (.aload_n 0, 1) := by decide +kernel
theorem dX6_twins_35 : decode cX6_twins 35 = .ok (.getfield 7, 3) := by decide +kernel
theorem dX6_twins_38 : decode cX6_twins 38 = .ok (.if_icmp .ge 57, 3) := by decide +kernel
theorem dX6_twins_41 : decode cX6_twins 41 = .ok (.iload_n 3, 1) := by decide +kernel
theorem dX6_twins_42 : decode cX6_twins 42 = .ok (.iload_n 2, 1) := by decide +kernel
theorem dX6_twins_43 : decode cX6_twins 43 = .ok (.irem, 1) := by decide +kernel
theorem dX6_twins_44 : decode cX6_twins 44 = .ok (.ifCond .eq 22, 3) := by decide +kernel
theorem dX6_twins_47 : decode cX6_twins 47 = .ok (.iload_n 3, 1) := by decide +kernel
theorem dX6_twins_48 : decode cX6_twins 48 = .ok (.iload_n 1, 1) := by decide +kernel
theorem dX6_twins_49 : decode cX6_twins 49 = .ok (.irem, 1) := by decide +kernel
theorem dX6_twins_50 : decode cX6_twins 50 = .ok (.ifCond .eq 20, 3) := by decide +kernel
theorem dX6_twins_53 : decode cX6_twins 53 = .ok (.iload_n 3, 1) := by decide +kernel
theorem dX6_twins_54 : decode cX6_twins 54 = .ok (.iload_n 1, 1) := by decide +kernel
theorem dX6_twins_55 : decode cX6_twins 55 = .ok (.invokestatic 117, 3) := by decide +kernel
theorem dX6_twins_58 : decode cX6_twins 58 = .ok (.iload_n 3, 1) := by decide +kernel
theorem dX6_twins_59 : decode cX6_twins 59 = .ok (.iload_n 2, 1) := by decide +kernel
theorem dX6_twins_60 : decode cX6_twins 60 = .ok (.invokestatic 117, 3) := by decide +kernel
theorem dX6_twins_63 : decode cX6_twins 63 = .ok (.if_icmp .ne 7, 3) := by decide +kernel
theorem dX6_twins_66 : decode cX6_twins 66 = .ok (.iconst 1, 1) := by decide +kernel
theorem dX6_twins_67 : decode cX6_twins 67 = .ok (.goto 4, 3) := by decide +kernel
theorem dX6_twins_70 : decode cX6_twins 70 = .ok (.iconst 0, 1) := by decide +kernel
theorem dX6_twins_71 : decode cX6_twins 71 = .ok (.istore 4, 2) := by decide +kernel
theorem dX6_twins_73 : decode cX6_twins 73 = .ok (.aload_n 0, 1) := by decide +kernel
theorem dX6_twins_74 : decode cX6_twins 74 = .ok (.getfield 13, 3) := by decide +kernel
theorem dX6_twins_77 : decode cX6_twins 77 = .ok (.iload_n 3, 1) := by decide +kernel
theorem dX6_twins_78 : decode cX6_twins 78 = .ok (.iload 4, 2) := by decide +kernel
theorem dX6_twins_80 : decode cX6_twins 80 = .ok (.ifCond .eq 7, 3) := by decide +kernel
theorem dX6_twins_83 : decode cX6_twins 83 = .ok (.iconst 1, 1) := by decide +kernel
theorem dX6_twins_84 : decode cX6_twins 84 = .ok (.goto 4, 3) := by decide +kernel
theorem dX6_twins_87 : decode cX6_twins 87 = .ok (.iconst 0, 1) := by decide +kernel
theorem dX6_twins_88 : decode cX6_twins 88 = .ok (.iastore, 1) := by decide +kernel
theorem dX6_twins_89 : decode cX6_twins 89 = .ok (.iinc 3 1, 3) := by decide +kernel
theorem dX6_twins_92 : decode cX6_twins 92 = .ok (.goto (-59), 3) := by decide +kernel
theorem dX6_twins_95 : decode cX6_twins 95 = .ok (.aload_n 0, 1) := by decide +kernel
theorem dX6_twins_96 : decode cX6_twins 96 = .ok (.invokevirtual 121, 3) := by decide +kernel
theorem dX6_twins_99 : decode cX6_twins 99 = .ok (.ireturn, 1) := by decide +kernel
theorem dX6_round_0 : decode cX6_round 0 = .ok (.iconst 1, 1) := by decide +kernel
theorem dX6_round_1 : decode cX6_round 1 = .ok (.iload_n 1, 1) := by decide +kernel
theorem dX6_round_2 : decode cX6_round 2 = .ok (.iconst 1, 1) := by decide +kernel
theorem dX6_round_3 : decode cX6_round 3 = .ok (.isub, 1) := by decide +kernel
theorem dX6_round_4 : decode cX6_round 4 = .ok (.ishl, 1) := by decide +kernel
theorem dX6_round_5 : decode cX6_round 5 = .ok (.istore 5, 2) := by decide +kernel
theorem dX6_round_7 : decode cX6_round 7 = .ok (.iconst 0, 1) := by decide +kernel
theorem dX6_round_8 : decode cX6_round 8 = .ok (.istore 6, 2) := by decide +kernel
theorem dX6_round_10 : decode cX6_round 10 = .ok (.iload 6, 2) := by decide +kernel
theorem dX6_round_12 : decode cX6_round 12 = .ok (.iload 4, 2) := by decide +kernel
theorem dX6_round_14 : decode cX6_round 14 = .ok (.if_icmp .ge 56, 3) := by decide +kernel
theorem dX6_round_17 : decode cX6_round 17 = .ok (.aload_n 3, 1) := by decide +kernel
theorem dX6_round_18 : decode cX6_round 18 = .ok (.iload 6, 2) := by decide +kernel
theorem dX6_round_20 : decode cX6_round 20 = .ok (.iload 5, 2) := by decide +kernel
theorem dX6_round_22 : decode cX6_round 22 = .ok (.iconst 1, 1) := by decide +kernel
theorem dX6_round_23 : decode cX6_round 23 = .ok (.iand, 1) := by decide +kernel
theorem dX6_round_24 : decode cX6_round 24 = .ok (.iastore, 1) := by decide +kernel
theorem dX6_round_25 : decode cX6_round 25 = .ok (.iload 5, 2) := by decide +kernel
theorem dX6_round_27 : decode cX6_round 27 = .ok (.iload_n 2, 1) := by decide +kernel
theorem dX6_round_28 : decode cX6_round 28 = .ok (.iand, 1) := by decide +kernel
theorem dX6_round_29 : decode cX6_round 29 = .ok (.invokestatic 124, 3) := by decide +kernel
theorem dX6_round_32 : decode cX6_round 32 = .ok (.iconst 1, 1) := by decide +kernel
theorem dX6_round_33 : decode cX6_round 33 = .ok (.iand, 1) := by decide +kernel
theorem dX6_round_34 : decode cX6_round 34 = .ok (.istore 7, 2) := by decide +kernel
theorem dX6_round_36 : decode cX6_round 36 = .ok (.iload 5, 2) := by decide +kernel
theorem dX6_round_38 : decode cX6_round 38 = .ok (.iconst 1, 1) := by decide +kernel
theorem dX6_round_39 : decode cX6_round 39 = .ok (.ishr, 1) := by decide +kernel
theorem dX6_round_40 : decode cX6_round 40 = .ok (.iload 7, 2) := by decide +kernel
theorem dX6_round_42 : decode cX6_round 42 = .ok (.iload_n 1, 1) := by decide +kernel
theorem dX6_round_43 : decode cX6_round 43 = .ok (.iconst 1, 1) := by decide +kernel
theorem dX6_round_44 : decode cX6_round 44 = .ok (.isub, 1) := by decide +kernel
theorem dX6_round_45 : decode cX6_round 45 = .ok (.ishl, 1) := by decide +kernel
theorem dX6_round_46 : decode cX6_round 46 = .ok (.ior, 1) := by decide +kernel
theorem dX6_round_47 : decode cX6_round 47 = .ok (.istore 5, 2) := by decide +kernel
theorem dX6_round_49 : decode cX6_round 49 = .ok (.iload 5, 2) := by decide +kernel
theorem dX6_round_51 : decode cX6_round 51 = .ok (.iconst 1, 1) := by decide +kernel
theorem dX6_round_52 : decode cX6_round 52 = .ok (.iload_n 1, 1) := by decide +kernel
theorem dX6_round_53 : decode cX6_round 53 = .ok (.iconst 1, 1) := by decide +kernel
theorem dX6_round_54 : decode cX6_round 54 = .ok (.isub, 1) := by decide +kernel
theorem dX6_round_55 : decode cX6_round 55 = .ok (.ishl, 1) := by decide +kernel
theorem dX6_round_56 : decode cX6_round 56 = .ok (.if_icmp .ne 8, 3) := by decide +kernel
theorem dX6_round_59 : decode cX6_round 59 = .ok (.iload 6, 2) := by decide +kernel
theorem dX6_round_61 : decode cX6_round 61 = .ok (.iconst 1, 1) := by decide +kernel
theorem dX6_round_62 : decode cX6_round 62 = .ok (.iadd, 1) := by decide +kernel
theorem dX6_round_63 : decode cX6_round 63 = .ok (.ireturn, 1) := by decide +kernel
theorem dX6_round_64 : decode cX6_round 64 = .ok (.iinc 6 1, 3) := by decide +kernel
theorem dX6_round_67 : decode cX6_round 67 = .ok (.goto (-57), 3) := by decide +kernel
theorem dX6_round_70 : decode cX6_round 70 = .ok (.iload 4, 2) := by decide +kernel
theorem dX6_round_72 : decode cX6_round 72 = .ok (.iconst 1, 1) := by decide +kernel
theorem dX6_round_73 : decode cX6_round 73 = .ok (.iadd, 1) := by decide +kernel
theorem dX6_round_74 : decode cX6_round 74 = .ok (.ireturn, 1) := by decide +kernel
theorem dX6_shift_0 : decode cX6_shift 0 = .ok (.aload_n 0, 1) := by decide +kernel
theorem dX6_shift_1 : decode cX6_shift 1 = .ok (.invokevirtual 68, 3) := by decide +kernel
theorem dX6_shift_4 : decode cX6_shift 4 = .ok (.iload_n 1, 1) := by decide +kernel
theorem dX6_shift_5 : decode cX6_shift 5 = .ok (.iconst 2, 1) := by decide +kernel
theorem dX6_shift_6 : decode cX6_shift 6 = .ok (.if_icmp .lt 8, 3) := by decide +kernel
theorem dX6_shift_9 : decode cX6_shift 9 = .ok (.iload_n 1, 1) := by decide +kernel
theorem dX6_shift_10 : decode cX6_shift 10 = .ok (.iconst 5, 1) := by decide +kernel
theorem dX6_shift_11 : decode cX6_shift 11 = .ok (.if_icmp .le 9, 3) := by decide +kernel
theorem dX6_shift_14 : decode cX6_shift 14 = .ok (.aload_n 0, 1) := by decide +kernel
theorem dX6_shift_15 : decode cX6_shift 15 = .ok (.iconst 1, 1) := by decide +kernel
theorem dX6_shift_16 : decode cX6_shift 16 = .ok (.invokevirtual 79, 3) := by decide +kernel
theorem dX6_shift_19 : decode cX6_shift 19 = .ok (.ireturn, 1) := by decide +kernel
theorem dX6_shift_20 : decode cX6_shift 20 = .ok (.iconst 1, 1) := by decide +kernel
theorem dX6_shift_21 : decode cX6_shift 21 = .ok (.iload_n 1, 1) := by decide +kernel
theorem dX6_shift_22 : decode cX6_shift 22 = .ok (.ishl, 1) := by decide +kernel
theorem dX6_shift_23 : decode cX6_shift 23 = .ok (.iconst 1, 1) := by decide +kernel
theorem dX6_shift_24 : decode cX6_shift 24 = .ok (.isub, 1) := by decide +kernel
theorem dX6_shift_25 : decode cX6_shift 25 = .ok (.istore_n 2, 1) := by decide +kernel
theorem dX6_shift_26 : decode cX6_shift 26 = .ok (.aload_n 0, 1) := by decide +kernel
theorem dX6_shift_27 : decode cX6_shift 27 = .ok (.iload_n 2, 1) := by decide +kernel
theorem dX6_shift_28 : decode cX6_shift 28 = .ok (.invokevirtual 75, 3) := by decide +kernel
theorem dX6_shift_31 : decode cX6_shift 31 = .ok (.iconst 1, 1) := by decide +kernel
theorem dX6_shift_32 : decode cX6_shift 32 = .ok (.istore_n 3, 1) := by decide +kernel
theorem dX6_shift_33 : decode cX6_shift 33 = .ok (.iload_n 3, 1) := by decide +kernel
theorem dX6_shift_34 : decode cX6_shift 34 = .ok (.iconst 1, 1) := by decide +kernel
theorem dX6_shift_35 : decode cX6_shift 35 = .ok (.iload_n 1, 1) := by decide +kernel
theorem dX6_shift_36 : decode cX6_shift 36 = .ok (.ishl, 1) := by decide +kernel
theorem dX6_shift_37 : decode cX6_shift 37 = .ok (.if_icmp .ge 26, 3) := by decide +kernel
theorem dX6_shift_40 : decode cX6_shift 40 = .ok (.aload_n 0, 1) := by decide +kernel
theorem dX6_shift_41 : decode cX6_shift 41 = .ok (.iload_n 1, 1) := by decide +kernel
theorem dX6_shift_42 : decode cX6_shift 42 = .ok (.iload_n 3, 1) := by decide +kernel
theorem dX6_shift_43 : decode cX6_shift 43 = .ok (.aload_n 0, 1) := by decide +kernel
theorem dX6_shift_44 : decode cX6_shift 44 = .ok (.getfield 13, 3) := by decide +kernel
theorem dX6_shift_47 : decode cX6_shift 47 = .ok (.iload_n 2, 1) := by decide +kernel
theorem dX6_shift_48 : decode cX6_shift 48 = .ok (.invokevirtual 129, 3) := by decide +kernel
theorem dX6_shift_51 : decode cX6_shift 51 = .ok (.iload_n 2, 1) := by decide +kernel
theorem dX6_shift_52 : decode cX6_shift 52 = .ok (.if_icmp .ne 5, 3) := by decide +kernel
theorem dX6_shift_55 : decode cX6_shift 55 = .ok (.iload_n 3, 1) := by decide +kernel
theorem dX6_shift_56 : decode cX6_shift 56 = .ok (.ireturn, 1) := by decide +kernel
theorem dX6_shift_57 : decode cX6_shift 57 = .ok (.iinc 3 2, 3) := by decide +kernel
theorem dX6_shift_60 : decode cX6_shift 60 = .ok (.goto (-27), 3) := by decide +kernel
theorem dX6_shift_63 : decode cX6_shift 63 = .ok (.iconst 0, 1) := by decide +kernel
theorem dX6_shift_64 : decode cX6_shift 64 = .ok (.ireturn, 1) := by decide +kernel
theorem dX6_down_0 : decode cX6_down 0 = .ok (.iconst 0, 1) := by decide +kernel
theorem dX6_down_1 : decode cX6_down 1 = .ok (.istore 4, 2) := by decide +kernel
theorem dX6_down_3 : decode cX6_down 3 = .ok (.lconst 1, 1) := by decide +kernel
theorem dX6_down_4 : decode cX6_down 4 = .ok (.lstore 5, 2) := by decide +kernel
theorem dX6_down_6 : decode cX6_down 6 = .ok (.iconst 0, 1) := by decide +kernel
theorem dX6_down_7 : decode cX6_down 7 = .ok (.istore 7, 2) := by decide +kernel
theorem dX6_down_9 : decode cX6_down 9 = .ok (.iload 7, 2) := by decide +kernel
theorem dX6_down_11 : decode cX6_down 11 = .ok (.iload_n 2, 1) := by decide +kernel
theorem dX6_down_12 : decode cX6_down 12 = .ok (.if_icmp .ge 245, 3) := by decide +kernel
theorem dX6_down_15 : decode cX6_down 15 = .ok (.iload 4, 2) := by decide +kernel
theorem dX6_down_17 : decode cX6_down 17 = .ok (.iload_n 1, 1) := by decide +kernel
theorem dX6_down_18 : decode cX6_down 18 = .ok (.if_icmp .ge 239, 3) := by decide +kernel
theorem dX6_down_21 : decode cX6_down 21 = .ok (.iload 4, 2) := by decide +kernel
theorem dX6_down_23 : decode cX6_down 23 = .ok (.istore 8, 2) := by decide +kernel
theorem dX6_down_25 : decode cX6_down 25 = .ok (.iload 8, 2) := by decide +kernel
theorem dX6_down_27 : decode cX6_down 27 = .ok (.iload_n 1, 1) := by decide +kernel
theorem dX6_down_28 : decode cX6_down 28 = .ok (.if_icmp .ge 26, 3) := by decide +kernel
theorem dX6_down_31 : decode cX6_down 31 = .ok (.aload_n 0, 1) := by decide +kernel
theorem dX6_down_32 : decode cX6_down 32 = .ok (.getfield 46, 3) := by decide +kernel
theorem dX6_down_35 : decode cX6_down 35 = .ok (.iload_n 3, 1) := by decide +kernel
theorem dX6_down_36 : decode cX6_down 36 = .ok (.iload 8, 2) := by decide +kernel
theorem dX6_down_38 : decode cX6_down 38 = .ok (.imul, 1) := by decide +kernel
theorem dX6_down_39 : decode cX6_down 39 = .ok (.iload 7, 2) := by decide +kernel
theorem dX6_down_41 : decode cX6_down 41 = .ok (.iadd, 1) := by decide +kernel
theorem dX6_down_42 : decode cX6_down 42 = .ok (.laload, 1) := by decide +kernel
theorem dX6_down_43 : decode cX6_down 43 = .ok (.lconst 0, 1) := by decide +kernel
theorem dX6_down_44 : decode cX6_down 44 = .ok (.lcmp, 1) := by decide +kernel
theorem dX6_down_45 : decode cX6_down 45 = .ok (.ifCond .ne 9, 3) := by decide +kernel
theorem dX6_down_48 : decode cX6_down 48 = .ok (.iinc 8 1, 3) := by decide +kernel
theorem dX6_down_51 : decode cX6_down 51 = .ok (.goto (-26), 3) := by decide +kernel
theorem dX6_down_54 : decode cX6_down 54 = .ok (.iload 8, 2) := by decide +kernel
theorem dX6_down_56 : decode cX6_down 56 = .ok (.iload_n 1, 1) := by decide +kernel
theorem dX6_down_57 : decode cX6_down 57 = .ok (.if_icmp .ne 6, 3) := by decide +kernel
theorem dX6_down_60 : decode cX6_down 60 = .ok (.goto 191, 3) := by decide +kernel
theorem dX6_down_63 : decode cX6_down 63 = .ok (.iconst 0, 1) := by decide +kernel
theorem dX6_down_64 : decode cX6_down 64 = .ok (.istore 9, 2) := by decide +kernel
theorem dX6_down_66 : decode cX6_down 66 = .ok (.iload 9, 2) := by decide +kernel
theorem dX6_down_68 : decode cX6_down 68 = .ok (.iload_n 3, 1) := by decide +kernel
theorem dX6_down_69 : decode cX6_down 69 = .ok (.if_icmp .ge 61, 3) := by decide +kernel
theorem dX6_down_72 : decode cX6_down 72 = .ok (.aload_n 0, 1) := by decide +kernel
theorem dX6_down_73 : decode cX6_down 73 = .ok (.getfield 46, 3) := by decide +kernel
theorem dX6_down_76 : decode cX6_down 76 = .ok (.iload_n 3, 1) := by decide +kernel
theorem dX6_down_77 : decode cX6_down 77 = .ok (.iload 8, 2) := by decide +kernel
theorem dX6_down_79 : decode cX6_down 79 = .ok (.imul, 1) := by decide +kernel
theorem dX6_down_80 : decode cX6_down 80 = .ok (.iload 9, 2) := by decide +kernel
theorem dX6_down_82 : decode cX6_down 82 = .ok (.iadd, 1) := by decide +kernel
theorem dX6_down_83 : decode cX6_down 83 = .ok (.laload, 1) := by decide +kernel
theorem dX6_down_84 : decode cX6_down 84 = .ok (.lstore 10, 2) := by decide +kernel
theorem dX6_down_86 : decode cX6_down 86 = .ok (.aload_n 0, 1) := by decide +kernel
theorem dX6_down_87 : decode cX6_down 87 = .ok (.getfield 46, 3) := by decide +kernel
theorem dX6_down_90 : decode cX6_down 90 = .ok (.iload_n 3, 1) := by decide +kernel
theorem dX6_down_91 : decode cX6_down 91 = .ok (.iload 8, 2) := by decide +kernel
theorem dX6_down_93 : decode cX6_down 93 = .ok (.imul, 1) := by decide +kernel
theorem dX6_down_94 : decode cX6_down 94 = .ok (.iload 9, 2) := by decide +kernel
theorem dX6_down_96 : decode cX6_down 96 = .ok (.iadd, 1) := by decide +kernel
theorem dX6_down_97 : decode cX6_down 97 = .ok (.aload_n 0, 1) := by decide +kernel
theorem dX6_down_98 : decode cX6_down 98 = .ok (.getfield 46, 3) := by decide +kernel
theorem dX6_down_101 : decode cX6_down 101 = .ok (.iload_n 3, 1) := by decide +kernel
theorem dX6_down_102 : decode cX6_down 102 = .ok (.iload 4, 2) := by decide +kernel
theorem dX6_down_104 : decode cX6_down 104 = .ok (.imul, 1) := by decide +kernel
theorem dX6_down_105 : decode cX6_down 105 = .ok (.iload 9, 2) := by decide +kernel
theorem dX6_down_107 : decode cX6_down 107 = .ok (.iadd, 1) := by decide +kernel
theorem dX6_down_108 : decode cX6_down 108 = .ok (.laload, 1) := by decide +kernel
theorem dX6_down_109 : decode cX6_down 109 = .ok (.lastore, 1) := by decide +kernel
theorem dX6_down_110 : decode cX6_down 110 = .ok (.aload_n 0, 1) := by decide +kernel
theorem dX6_down_111 : decode cX6_down 111 = .ok (.getfield 46, 3) := by decide +kernel
theorem dX6_down_114 : decode cX6_down 114 = .ok (.iload_n 3, 1) := by decide +kernel
theorem dX6_down_115 : decode cX6_down 115 = .ok (.iload 4, 2) := by decide +kernel
theorem dX6_down_117 : decode cX6_down 117 = .ok (.imul, 1) := by decide +kernel
theorem dX6_down_118 : decode cX6_down 118 = .ok (.iload 9, 2) := by decide +kernel
theorem dX6_down_120 : decode cX6_down 120 = .ok (.iadd, 1) := by decide +kernel
theorem dX6_down_121 : decode cX6_down 121 = .ok (.lload 10, 2) := by decide +kernel
theorem dX6_down_123 : decode cX6_down 123 = .ok (.lastore, 1) := by decide +kernel
theorem dX6_down_124 : decode cX6_down 124 = .ok (.iinc 9 1, 3) := by decide +kernel
theorem dX6_down_127 : decode cX6_down 127 = .ok (.goto (-61), 3) := by decide +kernel
theorem dX6_down_130 : decode cX6_down 130 = .ok (.aload_n 0, 1) := by decide +kernel
theorem dX6_down_131 : decode cX6_down 131 = .ok (.getfield 46, 3) := by decide +kernel
theorem dX6_down_134 : decode cX6_down 134 = .ok (.iload_n 3, 1) := by decide +kernel
theorem dX6_down_135 : decode cX6_down 135 = .ok (.iload 4, 2) := by decide +kernel
theorem dX6_down_137 : decode cX6_down 137 = .ok (.imul, 1) := by decide +kernel
theorem dX6_down_138 : decode cX6_down 138 = .ok (.iload 7, 2) := by decide +kernel
theorem dX6_down_140 : decode cX6_down 140 = .ok (.iadd, 1) := by decide +kernel
theorem dX6_down_141 : decode cX6_down 141 = .ok (.laload, 1) := by decide +kernel
theorem dX6_down_142 : decode cX6_down 142 = .ok (.lstore 9, 2) := by decide +kernel
theorem dX6_down_144 : decode cX6_down 144 = .ok (.iconst 0, 1) := by decide +kernel
theorem dX6_down_145 : decode cX6_down 145 = .ok (.istore 11, 2) := by decide +kernel
theorem dX6_down_147 : decode cX6_down 147 = .ok (.iload 11, 2) := by decide +kernel
theorem dX6_down_149 : decode cX6_down 149 = .ok (.iload_n 1, 1) := by decide +kernel
theorem dX6_down_150 : decode cX6_down 150 = .ok (.if_icmp .ge 94, 3) := by decide +kernel
theorem dX6_down_153 : decode cX6_down 153 = .ok (.iload 11, 2) := by decide +kernel
theorem dX6_down_155 : decode cX6_down 155 = .ok (.iload 4, 2) := by decide +kernel
theorem dX6_down_157 : decode cX6_down 157 = .ok (.if_icmp .ne 6, 3) := by decide +kernel
theorem dX6_down_160 : decode cX6_down 160 = .ok (.goto 78, 3) := by decide +kernel
theorem dX6_down_163 : decode cX6_down 163 = .ok (.aload_n 0, 1) := by decide +kernel
theorem dX6_down_164 : decode cX6_down 164 = .ok (.getfield 46, 3) := by decide +kernel
theorem dX6_down_167 : decode cX6_down 167 = .ok (.iload_n 3, 1) := by decide +kernel
theorem dX6_down_168 : decode cX6_down 168 = .ok (.iload 11, 2) := by decide +kernel
theorem dX6_down_170 : decode cX6_down 170 = .ok (.imul, 1) := by decide +kernel
theorem dX6_down_171 : decode cX6_down 171 = .ok (.iload 7, 2) := by decide +kernel
theorem dX6_down_173 : decode cX6_down 173 = .ok (.iadd, 1) := by decide +kernel
theorem dX6_down_174 : decode cX6_down 174 = .ok (.laload, 1) := by decide +kernel
theorem dX6_down_175 : decode cX6_down 175 = .ok (.lstore 12, 2) := by decide +kernel
theorem dX6_down_177 : decode cX6_down 177 = .ok (.iconst 0, 1) := by decide +kernel
theorem dX6_down_178 : decode cX6_down 178 = .ok (.istore 14, 2) := by decide +kernel
theorem dX6_down_180 : decode cX6_down 180 = .ok (.iload 14, 2) := by decide +kernel
theorem dX6_down_182 : decode cX6_down 182 = .ok (.iload_n 3, 1) := by decide +kernel
theorem dX6_down_183 : decode cX6_down 183 = .ok (.if_icmp .ge 55, 3) := by decide +kernel
theorem dX6_down_186 : decode cX6_down 186 = .ok (.aload_n 0, 1) := by decide +kernel
theorem dX6_down_187 : decode cX6_down 187 = .ok (.getfield 46, 3) := by decide +kernel
theorem dX6_down_190 : decode cX6_down 190 = .ok (.iload_n 3, 1) := by decide +kernel
theorem dX6_down_191 : decode cX6_down 191 = .ok (.iload 11, 2) := by decide +kernel
theorem dX6_down_193 : decode cX6_down 193 = .ok (.imul, 1) := by decide +kernel
theorem dX6_down_194 : decode cX6_down 194 = .ok (.iload 14, 2) := by decide +kernel
theorem dX6_down_196 : decode cX6_down 196 = .ok (.iadd, 1) := by decide +kernel
theorem dX6_down_197 : decode cX6_down 197 = .ok (.lload 9, 2) := by decide +kernel
theorem dX6_down_199 : decode cX6_down 199 = .ok (.aload_n 0, 1) := by decide +kernel
theorem dX6_down_200 : decode cX6_down 200 = .ok (.getfield 46, 3) := by decide +kernel
theorem dX6_down_203 : decode cX6_down 203 = .ok (.iload_n 3, 1) := by decide +kernel
theorem dX6_down_204 : decode cX6_down 204 = .ok (.iload 11, 2) := by decide +kernel
theorem dX6_down_206 : decode cX6_down 206 = .ok (.imul, 1) := by decide +kernel
theorem dX6_down_207 : decode cX6_down 207 = .ok (.iload 14, 2) := by decide +kernel
theorem dX6_down_209 : decode cX6_down 209 = .ok (.iadd, 1) := by decide +kernel
theorem dX6_down_210 : decode cX6_down 210 = .ok (.laload, 1) := by decide +kernel
theorem dX6_down_211 : decode cX6_down 211 = .ok (.lmul, 1) := by decide +kernel
theorem dX6_down_212 : decode cX6_down 212 = .ok (.lload 12, 2) := by decide +kernel
theorem dX6_down_214 : decode cX6_down 214 = .ok (.aload_n 0, 1) := by decide +kernel
theorem dX6_down_215 : decode cX6_down 215 = .ok (.getfield 46, 3) := by decide +kernel
theorem dX6_down_218 : decode cX6_down 218 = .ok (.iload_n 3, 1) := by decide +kernel
theorem dX6_down_219 : decode cX6_down 219 = .ok (.iload 4, 2) := by decide +kernel
theorem dX6_down_221 : decode cX6_down 221 = .ok (.imul, 1) := by decide +kernel
theorem dX6_down_222 : decode cX6_down 222 = .ok (.iload 14, 2) := by decide +kernel
theorem dX6_down_224 : decode cX6_down 224 = .ok (.iadd, 1) := by decide +kernel
theorem dX6_down_225 : decode cX6_down 225 = .ok (.laload, 1) := by decide +kernel
theorem dX6_down_226 : decode cX6_down 226 = .ok (.lmul, 1) := by decide +kernel
theorem dX6_down_227 : decode cX6_down 227 = .ok (.lsub, 1) := by decide +kernel
theorem dX6_down_228 : decode cX6_down 228 = .ok (.lload 5, 2) := by decide +kernel
theorem dX6_down_230 : decode cX6_down 230 = .ok (.ldiv, 1) := by decide +kernel
theorem dX6_down_231 : decode cX6_down 231 = .ok (.lastore, 1) := by decide +kernel
theorem dX6_down_232 : decode cX6_down 232 = .ok (.iinc 14 1, 3) := by decide +kernel
theorem dX6_down_235 : decode cX6_down 235 = .ok (.goto (-55), 3) := by decide +kernel
theorem dX6_down_238 : decode cX6_down 238 = .ok (.iinc 11 1, 3) := by decide +kernel
theorem dX6_down_241 : decode cX6_down 241 = .ok (.goto (-94), 3) := by decide +kernel
theorem dX6_down_244 : decode cX6_down 244 = .ok (.lload 9, 2) := by decide +kernel
theorem dX6_down_246 : decode cX6_down 246 = .ok (.lstore 5, 2) := by decide +kernel
theorem dX6_down_248 : decode cX6_down 248 = .ok (.iinc 4 1, 3) := by decide +kernel
theorem dX6_down_251 : decode cX6_down 251 = .ok (.iinc 7 1, 3) := by decide +kernel
theorem dX6_down_254 : decode cX6_down 254 = .ok (.goto (-245), 3) := by decide +kernel
theorem dX6_down_257 : decode cX6_down 257 = .ok (.aload_n 0, 1) := by decide +kernel
theorem dX6_down_258 : decode cX6_down 258 = .ok (.lload 5, 2) := by decide +kernel
theorem dX6_down_260 : decode cX6_down 260 = .ok (.putfield 133, 3) := by decide +kernel
theorem dX6_down_263 : decode cX6_down 263 = .ok (.iload 4, 2) := by decide +kernel
theorem dX6_down_265 : decode cX6_down 265 = .ok (.ireturn, 1) := by decide +kernel
theorem dX6_gcd_0 : decode cX6_gcd 0 = .ok (.lload_n 0, 1) := by decide +kernel
theorem dX6_gcd_1 : decode cX6_gcd 1 = .ok (.lconst 0, 1) := by decide +kernel
theorem dX6_gcd_2 : decode cX6_gcd 2 = .ok (.lcmp, 1) := by decide +kernel
theorem dX6_gcd_3 : decode cX6_gcd 3 = .ok (.ifCond .ge 8, 3) := by decide +kernel
theorem dX6_gcd_6 : decode cX6_gcd 6 = .ok (.lload_n 0, 1) := by decide +kernel
theorem dX6_gcd_7 : decode cX6_gcd 7 = .ok (.lneg, 1) := by decide +kernel
theorem dX6_gcd_8 : decode cX6_gcd 8 = .ok (.goto 4, 3) := by decide +kernel
theorem dX6_gcd_11 : decode cX6_gcd 11 = .ok (.lload_n 0, 1) := by decide +kernel
theorem dX6_gcd_12 : decode cX6_gcd 12 = .ok (.lstore 4, 2) := by decide +kernel
theorem dX6_gcd_14 : decode cX6_gcd 14 = .ok (.lload_n 2, 1) := by decide +kernel
theorem dX6_gcd_15 : decode cX6_gcd 15 = .ok (.lconst 0, 1) := by decide +kernel
theorem dX6_gcd_16 : decode cX6_gcd 16 = .ok (.lcmp, 1) := by decide +kernel
theorem dX6_gcd_17 : decode cX6_gcd 17 = .ok (.ifCond .ge 8, 3) := by decide +kernel
theorem dX6_gcd_20 : decode cX6_gcd 20 = .ok (.lload_n 2, 1) := by decide +kernel
theorem dX6_gcd_21 : decode cX6_gcd 21 = .ok (.lneg, 1) := by decide +kernel
theorem dX6_gcd_22 : decode cX6_gcd 22 = .ok (.goto 4, 3) := by decide +kernel
theorem dX6_gcd_25 : decode cX6_gcd 25 = .ok (.lload_n 2, 1) := by decide +kernel
theorem dX6_gcd_26 : decode cX6_gcd 26 = .ok (.lstore 6, 2) := by decide +kernel
theorem dX6_gcd_28 : decode cX6_gcd 28 = .ok (.lload 6, 2) := by decide +kernel
theorem dX6_gcd_30 : decode cX6_gcd 30 = .ok (.lconst 0, 1) := by decide +kernel
theorem dX6_gcd_31 : decode cX6_gcd 31 = .ok (.lcmp, 1) := by decide +kernel
theorem dX6_gcd_32 : decode cX6_gcd 32 = .ok (.ifCond .eq 21, 3) := by decide +kernel
theorem dX6_gcd_35 : decode cX6_gcd 35 = .ok (.lload 4, 2) := by decide +kernel
theorem dX6_gcd_37 : decode cX6_gcd 37 = .ok (.lload 6, 2) := by decide +kernel
theorem dX6_gcd_39 : decode cX6_gcd 39 = .ok (.lrem, 1) := by decide +kernel
theorem dX6_gcd_40 : decode cX6_gcd 40 = .ok (.lstore 8, 2) := by decide +kernel
theorem dX6_gcd_42 : decode cX6_gcd 42 = .ok (.lload 6, 2) := by decide +kernel
theorem dX6_gcd_44 : decode cX6_gcd 44 = .ok (.lstore 4, 2) := by decide +kernel
theorem dX6_gcd_46 : decode cX6_gcd 46 = .ok (.lload 8, 2) := by decide +kernel
theorem dX6_gcd_48 : decode cX6_gcd 48 = .ok (.lstore 6, 2) := by decide +kernel
theorem dX6_gcd_50 : decode cX6_gcd 50 = .ok (.goto (-22), 3) := by decide +kernel
theorem dX6_gcd_53 : decode cX6_gcd 53 = .ok (.lload 4, 2) := by decide +kernel
theorem dX6_gcd_55 : decode cX6_gcd 55 = .ok (.lreturn, 1) := by decide +kernel
theorem dX6_solveBack_0 : decode cX6_solveBack 0 = .ok (.aload_n 0, 1) := by decide +kernel
theorem dX6_solveBack_1 : decode cX6_solveBack 1 = .ok (.getfield 7, 3) := by decide +kernel
theorem dX6_solveBack_4 : decode cX6_solveBack 4 = .ok (.iconst 1, 1) := by decide +kernel
theorem dX6_solveBack_5 : decode cX6_solveBack 5 = .ok (.iadd, 1) := by decide +kernel
theorem dX6_solveBack_6 : decode cX6_solveBack 6 = .ok (.istore_n 1, 1) := by decide +kernel
theorem dX6_solveBack_7 : decode cX6_solveBack 7 = .ok (.iconst 0, 1) := by decide +kernel
theorem dX6_solveBack_8 : decode cX6_solveBack 8 = .ok (.istore_n 2, 1) := by decide +kernel
theorem dX6_solveBack_9 : decode cX6_solveBack 9 = .ok (.iload_n 2, 1) := by decide +kernel
theorem dX6_solveBack_10 : decode cX6_solveBack 10 = .ok (.aload_n 0, 1) := by decide +kernel
theorem dX6_solveBack_11 : decode cX6_solveBack 11 = .ok (.getfield 7, 3) := by decide +kernel
theorem dX6_solveBack_14 : decode cX6_solveBack 14 = .ok (.if_icmp .ge 76, 3) := by decide +kernel
theorem dX6_solveBack_17 : decode cX6_solveBack 17 = .ok (.iconst 0, 1) := by decide +kernel
theorem dX6_solveBack_18 : decode cX6_solveBack 18 = .ok (.istore_n 3, 1) := by decide +kernel
theorem dX6_solveBack_19 : decode cX6_solveBack 19 = .ok (.iload_n 3, 1) := by decide +kernel
theorem dX6_solveBack_20 : decode cX6_solveBack 20 = .ok (.aload_n 0, 1) := by decide +kernel
theorem dX6_solveBack_21 : decode cX6_solveBack 21 = .ok (.getfield 7, 3) := by decide +kernel
theorem dX6_solveBack_24 : decode cX6_solveBack 24 = .ok (.if_icmp .ge 38, 3) := by decide +kernel
theorem dX6_solveBack_27 : decode cX6_solveBack 27 = .ok (.aload_n 0, 1) := by decide +kernel
theorem dX6_solveBack_28 : decode cX6_solveBack 28 = .ok (.getfield 46, 3) := by decide +kernel
theorem dX6_solveBack_31 : decode cX6_solveBack 31 = .ok (.iload_n 1, 1) := by decide +kernel
theorem dX6_solveBack_32 : decode cX6_solveBack 32 = .ok (.iload_n 2, 1) := by decide +kernel
theorem dX6_solveBack_33 : decode cX6_solveBack 33 = .ok (.imul, 1) := by decide +kernel
theorem dX6_solveBack_34 : decode cX6_solveBack 34 = .ok (.iload_n 3, 1) := by decide +kernel
theorem dX6_solveBack_35 : decode cX6_solveBack 35 = .ok (.iadd, 1) := by decide +kernel
theorem dX6_solveBack_36 : decode cX6_solveBack 36 = .ok (.aload_n 0, 1) := by decide +kernel
theorem dX6_solveBack_37 : decode cX6_solveBack 37 = .ok (.getfield 13, 3) := by decide +kernel
theorem dX6_solveBack_40 : decode cX6_solveBack 40 = .ok (.iload_n 2, 1) := by decide +kernel
theorem dX6_solveBack_41 : decode cX6_solveBack 41 = .ok (.iload_n 3, 1) := by decide +kernel
theorem dX6_solveBack_42 : decode cX6_solveBack 42 = .ok (.isub, 1) := by decide +kernel
theorem dX6_solveBack_43 : decode cX6_solveBack 43 = .ok (.aload_n 0, 1) := by decide +kernel
theorem dX6_solveBack_44 : decode cX6_solveBack 44 = .ok (.getfield 7, 3) := by decide +kernel
theorem dX6_solveBack_47 : decode cX6_solveBack 47 = .ok (.iadd, 1) := by decide +kernel
theorem dX6_solveBack_48 : decode cX6_solveBack 48 = .ok (.aload_n 0, 1) := by decide +kernel
theorem dX6_solveBack_49 : decode cX6_solveBack 49 = .ok (.getfield 7, 3) := by decide +kernel
theorem dX6_solveBack_52 : decode cX6_solveBack 52 = .ok (.irem, 1) := by decide +kernel
theorem dX6_solveBack_53 : decode cX6_solveBack 53 = .ok (.iaload, 1) := by decide +kernel
theorem dX6_solveBack_54 : decode cX6_solveBack 54 = .ok (.i2l, 1) := by decide +kernel
theorem dX6_solveBack_55 : decode cX6_solveBack 55 = .ok (.lastore, 1) := by decide +kernel
theorem dX6_solveBack_56 : decode cX6_solveBack 56 = .ok (.iinc 3 1, 3) := by decide +kernel
theorem dX6_solveBack_59 : decode cX6_solveBack 59 = .ok (.goto (-40), 3) := by decide +kernel
theorem dX6_solveBack_62 : decode cX6_solveBack 62 = .ok (.aload_n 0, 1) := by decide +kernel
theorem dX6_solveBack_63 : decode cX6_solveBack 63 = .ok (.getfield 46, 3) := by decide +kernel
theorem dX6_solveBack_66 : decode cX6_solveBack 66 = .ok (.iload_n 1, 1) := by decide +kernel
theorem dX6_solveBack_67 : decode cX6_solveBack 67 = .ok (.iload_n 2, 1) := by decide +kernel
theorem dX6_solveBack_68 : decode cX6_solveBack 68 = .ok (.imul, 1) := by decide +kernel
theorem dX6_solveBack_69 : decode cX6_solveBack 69 = .ok (.aload_n 0, 1) := by decide +kernel
theorem dX6_solveBack_70 : decode cX6_solveBack 70 = .ok (.getfield 7, 3) := by decide +kernel
theorem dX6_solveBack_73 : decode cX6_solveBack 73 = .ok (.iadd, 1) := by decide +kernel
theorem dX6_solveBack_74 : decode cX6_solveBack 74 = .ok (.iload_n 2, 1) := by decide +kernel
theorem dX6_solveBack_75 : decode cX6_solveBack 75 = .ok (.ifCond .ne 7, 3) := by decide +kernel
theorem dX6_solveBack_78 : decode cX6_solveBack 78 = .ok (.lconst 1, 1) := by decide +kernel
theorem dX6_solveBack_79 : decode cX6_solveBack 79 = .ok (.goto 4, 3) := by decide +kernel
theorem dX6_solveBack_82 : decode cX6_solveBack 82 = .ok (.lconst 0, 1) := by decide +kernel
theorem dX6_solveBack_83 : decode cX6_solveBack 83 = .ok (.lastore, 1) := by decide +kernel
theorem dX6_solveBack_84 : decode cX6_solveBack 84 = .ok (.iinc 2 1, 3) := by decide +kernel
theorem dX6_solveBack_87 : decode cX6_solveBack 87 = .ok (.goto (-78), 3) := by decide +kernel
theorem dX6_solveBack_90 : decode cX6_solveBack 90 = .ok (.aload_n 0, 1) := by decide +kernel
theorem dX6_solveBack_91 : decode cX6_solveBack 91 = .ok (.aload_n 0, 1) := by decide +kernel
theorem dX6_solveBack_92 : decode cX6_solveBack 92 = .ok (.getfield 7, 3) := by decide +kernel
theorem dX6_solveBack_95 : decode cX6_solveBack 95 = .ok (.aload_n 0, 1) := by decide +kernel
theorem dX6_solveBack_96 : decode cX6_solveBack 96 = .ok (.getfield 7, 3) := by decide +kernel
theorem dX6_solveBack_99 : decode cX6_solveBack 99 = .ok (.iload_n 1, 1) := by decide +kernel
theorem dX6_solveBack_100 : decode cX6_solveBack 100 = .ok (.invokevirtual 136, 3) := by decide +kernel
theorem dX6_solveBack_103 : decode cX6_solveBack 103 = .ok (.aload_n 0, 1) := by decide +kernel
theorem dX6_solveBack_104 : decode cX6_solveBack 104 = .ok (.getfield 7, 3) := by decide +kernel
theorem dX6_solveBack_107 : decode cX6_solveBack 107 = .ok (.if_icmp .ge 5, 3) := by decide +kernel
theorem dX6_solveBack_110 : decode cX6_solveBack 110 = .ok (.iconst 0, 1) := by decide +kernel
theorem dX6_solveBack_111 : decode cX6_solveBack 111 = .ok (.ireturn, 1) := by decide +kernel
theorem dX6_solveBack_112 : decode cX6_solveBack 112 = .ok (.aload_n 0, 1) := by decide +kernel
theorem dX6_solveBack_113 : decode cX6_solveBack 113 = .ok (.getfield 133, 3) := by decide +kernel
theorem dX6_solveBack_116 : decode cX6_solveBack 116 = .ok (.lstore_n 2, 1) := by decide +kernel
theorem dX6_solveBack_117 : decode cX6_solveBack 117 = .ok (.iconst 0, 1) := by decide +kernel
theorem dX6_solveBack_118 : decode cX6_solveBack 118 = .ok (.istore 4, 2) := by decide +kernel
theorem dX6_solveBack_120 : decode cX6_solveBack 120 = .ok (.iload 4, 2) := by decide +kernel
theorem dX6_solveBack_122 : decode cX6_solveBack 122 = .ok (.aload_n 0, 1) := by decide +kernel
theorem dX6_solveBack_123 : decode cX6_solveBack 123 = .ok (.getfield 7, 3) := by decide +kernel
theorem dX6_solveBack_126 : decode cX6_solveBack 126 = .ok (.if_icmp .ge 28, 3) := by decide +kernel
theorem dX6_solveBack_129 : decode cX6_solveBack 129 = .ok (.lload_n 2, 1) := by decide +kernel
theorem dX6_solveBack_130 : decode cX6_solveBack 130 = .ok (.aload_n 0, 1) := by decide +kernel
theorem dX6_solveBack_131 : decode cX6_solveBack 131 = .ok (.getfield 46, 3) := by decide +kernel
theorem dX6_solveBack_134 : decode cX6_solveBack 134 = .ok (.iload_n 1, 1) := by decide +kernel
theorem dX6_solveBack_135 : decode cX6_solveBack 135 = .ok (.iload 4, 2) := by decide +kernel
theorem dX6_solveBack_137 : decode cX6_solveBack 137 = .ok (.imul, 1) := by decide +kernel
theorem dX6_solveBack_138 : decode cX6_solveBack 138 = .ok (.aload_n 0, 1) := by decide +kernel
theorem dX6_solveBack_139 : decode cX6_solveBack 139 = .ok (.getfield 7, 3) := by decide +kernel
theorem dX6_solveBack_142 : decode cX6_solveBack 142 = .ok (.iadd, 1) := by decide +kernel
theorem dX6_solveBack_143 : decode cX6_solveBack 143 = .ok (.laload, 1) := by decide +kernel
theorem dX6_solveBack_144 : decode cX6_solveBack 144 = .ok (.invokestatic 140, 3) := by decide +kernel
theorem dX6_solveBack_147 : decode cX6_solveBack 147 = .ok (.lstore_n 2, 1) := by decide +kernel
theorem dX6_solveBack_148 : decode cX6_solveBack 148 = .ok (.iinc 4 1, 3) := by decide +kernel
theorem dX6_solveBack_151 : decode cX6_solveBack 151 = .ok (.goto (-31), 3) := by decide +kernel
theorem dX6_solveBack_154 : decode cX6_solveBack 154 = .ok (.aload_n 0, 1) := by decide +kernel
theorem dX6_solveBack_155 : decode cX6_solveBack 155 = .ok (.getfield 133, 3) := by decide +kernel
theorem dX6_solveBack_158 : decode cX6_solveBack 158 = .ok (.lconst 0, 1) := by decide +kernel
theorem dX6_solveBack_159 : decode cX6_solveBack 159 = .ok (.lcmp, 1) := by decide +kernel
theorem dX6_solveBack_160 : decode cX6_solveBack 160 = .ok (.ifCond .ge 6, 3) := by decide +kernel
theorem dX6_solveBack_163 : decode cX6_solveBack 163 = .ok (.lload_n 2, 1) := by decide +kernel
theorem dX6_solveBack_164 : decode cX6_solveBack 164 = .ok (.lneg, 1) := by decide +kernel
theorem dX6_solveBack_165 : decode cX6_solveBack 165 = .ok (.lstore_n 2, 1) := by decide +kernel
theorem dX6_solveBack_166 : decode cX6_solveBack 166 = .ok (.iconst 0, 1) := by decide +kernel
theorem dX6_solveBack_167 : decode cX6_solveBack 167 = .ok (.istore 4, 2) := by decide +kernel
theorem dX6_solveBack_169 : decode cX6_solveBack 169 = .ok (.iload 4, 2) := by decide +kernel
theorem dX6_solveBack_171 : decode cX6_solveBack 171 = .ok (.aload_n 0, 1) := by decide +kernel
theorem dX6_solveBack_172 : decode cX6_solveBack 172 = .ok (.getfield 7, 3) := by decide +kernel
theorem dX6_solveBack_175 : decode cX6_solveBack 175 = .ok (.if_icmp .ge 32, 3) := by decide +kernel
theorem dX6_solveBack_178 : decode cX6_solveBack 178 = .ok (.aload_n 0, 1) := by decide +kernel
theorem dX6_solveBack_179 : decode cX6_solveBack 179 = .ok (.getfield 52, 3) := by decide +kernel
theorem dX6_solveBack_182 : decode cX6_solveBack 182 = .ok (.iload 4, 2) := by decide +kernel
theorem dX6_solveBack_184 : decode cX6_solveBack 184 = .ok (.aload_n 0, 1) := by decide +kernel
theorem dX6_solveBack_185 : decode cX6_solveBack 185 = .ok (.getfield 46, 3) := by decide +kernel
theorem dX6_solveBack_188 : decode cX6_solveBack 188 = .ok (.iload_n 1, 1) := by decide +kernel
theorem dX6_solveBack_189 : decode cX6_solveBack 189 = .ok (.iload 4, 2) := by decide +kernel
theorem dX6_solveBack_191 : decode cX6_solveBack 191 = .ok (.imul, 1) := by decide +kernel
theorem dX6_solveBack_192 : decode cX6_solveBack 192 = .ok (.aload_n 0, 1) := by decide +kernel
theorem dX6_solveBack_193 : decode cX6_solveBack 193 = .ok (.getfield 7, 3) := by decide +kernel
theorem dX6_solveBack_196 : decode cX6_solveBack 196 = .ok (.iadd, 1) := by decide +kernel
theorem dX6_solveBack_197 : decode cX6_solveBack 197 = .ok (.laload, 1) := by decide +kernel
theorem dX6_solveBack_198 : decode cX6_solveBack 198 = .ok (.lload_n 2, 1) := by decide +kernel
theorem dX6_solveBack_199 : decode cX6_solveBack 199 = .ok (.ldiv, 1) := by decide +kernel
theorem dX6_solveBack_200 : decode cX6_solveBack 200 = .ok (.lastore, 1) := by decide +kernel
theorem dX6_solveBack_201 : decode cX6_solveBack 201 = .ok (.iinc 4 1, 3) := by decide +kernel
theorem dX6_solveBack_204 : decode cX6_solveBack 204 = .ok (.goto (-35), 3) := by decide +kernel
theorem dX6_solveBack_207 : decode cX6_solveBack 207 = .ok (.aload_n 0, 1) := by decide +kernel
theorem dX6_solveBack_208 : decode cX6_solveBack 208 = .ok (.dup, 1) := by decide +kernel
theorem dX6_solveBack_209 : decode cX6_solveBack 209 = .ok (.getfield 133, 3) := by decide +kernel
theorem dX6_solveBack_212 : decode cX6_solveBack 212 = .ok (.lload_n 2, 1) := by decide +kernel
theorem dX6_solveBack_213 : decode cX6_solveBack 213 = .ok (.ldiv, 1) := by decide +kernel
theorem dX6_solveBack_214 : decode cX6_solveBack 214 = .ok (.putfield 133, 3) := by decide +kernel
theorem dX6_solveBack_217 : decode cX6_solveBack 217 = .ok (.iconst 1, 1) := by decide +kernel
theorem dX6_solveBack_218 : decode cX6_solveBack 218 = .ok (.ireturn, 1) := by decide +kernel
theorem dX6_undo_0 : decode cX6_undo 0 = .ok (.aload_n 0, 1) := by decide +kernel
theorem dX6_undo_1 : decode cX6_undo 1 = .ok (.invokevirtual 68, 3) := by decide +kernel
theorem dX6_undo_4 : decode cX6_undo 4 = .ok (.aload_n 0, 1) := by decide +kernel
theorem dX6_undo_5 : decode cX6_undo 5 = .ok (.getfield 7, 3) := by decide +kernel
theorem dX6_undo_8 : decode cX6_undo 8 = .ok (.bipush 14, 2) := by decide +kernel
theorem dX6_undo_10 : decode cX6_undo 10 = .ok (.if_icmp .le 10, 3) := by decide +kernel
theorem dX6_undo_13 : decode cX6_undo 13 = .ok (.aload_n 0, 1) := by decide +kernel
theorem dX6_undo_14 : decode cX6_undo 14 = .ok (.iconst 1, 1) := by decide +kernel
theorem dX6_undo_15 : decode cX6_undo 15 = .ok (.invokevirtual 79, 3) := by decide +kernel
theorem dX6_undo_18 : decode cX6_undo 18 = .ok (.i2l, 1) := by decide +kernel
theorem dX6_undo_19 : decode cX6_undo 19 = .ok (.lreturn, 1) := by decide +kernel
theorem dX6_undo_20 : decode cX6_undo 20 = .ok (.aload_n 0, 1) := by decide +kernel
theorem dX6_undo_21 : decode cX6_undo 21 = .ok (.lconst 0, 1) := by decide +kernel
theorem dX6_undo_22 : decode cX6_undo 22 = .ok (.putfield 64, 3) := by decide +kernel
theorem dX6_undo_25 : decode cX6_undo 25 = .ok (.aload_n 0, 1) := by decide +kernel
theorem dX6_undo_26 : decode cX6_undo 26 = .ok (.invokevirtual 144, 3) := by decide +kernel
theorem dX6_undo_29 : decode cX6_undo 29 = .ok (.ifCond .ne 5, 3) := by decide +kernel
theorem dX6_undo_32 : decode cX6_undo 32 = .ok (.lconst 0, 1) := by decide +kernel
theorem dX6_undo_33 : decode cX6_undo 33 = .ok (.lreturn, 1) := by decide +kernel
theorem dX6_undo_34 : decode cX6_undo 34 = .ok (.aload_n 0, 1) := by decide +kernel
theorem dX6_undo_35 : decode cX6_undo 35 = .ok (.aload_n 0, 1) := by decide +kernel
theorem dX6_undo_36 : decode cX6_undo 36 = .ok (.getfield 133, 3) := by decide +kernel
theorem dX6_undo_39 : decode cX6_undo 39 = .ok (.putfield 64, 3) := by decide +kernel
theorem dX6_undo_42 : decode cX6_undo 42 = .ok (.iconst 0, 1) := by decide +kernel
theorem dX6_undo_43 : decode cX6_undo 43 = .ok (.istore_n 1, 1) := by decide +kernel
theorem dX6_undo_44 : decode cX6_undo 44 = .ok (.iload_n 1, 1) := by decide +kernel
theorem dX6_undo_45 : decode cX6_undo 45 = .ok (.aload_n 0, 1) := by decide +kernel
theorem dX6_undo_46 : decode cX6_undo 46 = .ok (.getfield 7, 3) := by decide +kernel
theorem dX6_undo_49 : decode cX6_undo 49 = .ok (.if_icmp .ge 21, 3) := by decide +kernel
theorem dX6_undo_52 : decode cX6_undo 52 = .ok (.aload_n 0, 1) := by decide +kernel
theorem dX6_undo_53 : decode cX6_undo 53 = .ok (.getfield 33, 3) := by decide +kernel
theorem dX6_undo_56 : decode cX6_undo 56 = .ok (.iload_n 1, 1) := by decide +kernel
theorem dX6_undo_57 : decode cX6_undo 57 = .ok (.aload_n 0, 1) := by decide +kernel
theorem dX6_undo_58 : decode cX6_undo 58 = .ok (.getfield 52, 3) := by decide +kernel
theorem dX6_undo_61 : decode cX6_undo 61 = .ok (.iload_n 1, 1) := by decide +kernel
theorem dX6_undo_62 : decode cX6_undo 62 = .ok (.laload, 1) := by decide +kernel
theorem dX6_undo_63 : decode cX6_undo 63 = .ok (.lastore, 1) := by decide +kernel
theorem dX6_undo_64 : decode cX6_undo 64 = .ok (.iinc 1 1, 3) := by decide +kernel
theorem dX6_undo_67 : decode cX6_undo 67 = .ok (.goto (-23), 3) := by decide +kernel
theorem dX6_undo_70 : decode cX6_undo 70 = .ok (.aload_n 0, 1) := by decide +kernel
theorem dX6_undo_71 : decode cX6_undo 71 = .ok (.getfield 64, 3) := by decide +kernel
theorem dX6_undo_74 : decode cX6_undo 74 = .ok (.lreturn, 1) := by decide +kernel
theorem dX6_back_0 : decode cX6_back 0 = .ok (.aload_n 0, 1) := by decide +kernel
theorem dX6_back_1 : decode cX6_back 1 = .ok (.invokevirtual 68, 3) := by decide +kernel
theorem dX6_back_4 : decode cX6_back 4 = .ok (.aload_n 0, 1) := by decide +kernel
theorem dX6_back_5 : decode cX6_back 5 = .ok (.iload_n 1, 1) := by decide +kernel
theorem dX6_back_6 : decode cX6_back 6 = .ok (.invokevirtual 94, 3) := by decide +kernel
theorem dX6_back_9 : decode cX6_back 9 = .ok (.ifCond .eq 12, 3) := by decide +kernel
theorem dX6_back_12 : decode cX6_back 12 = .ok (.aload_n 0, 1) := by decide +kernel
theorem dX6_back_13 : decode cX6_back 13 = .ok (.getfield 64, 3) := by decide +kernel
theorem dX6_back_16 : decode cX6_back 16 = .ok (.lconst 0, 1) := by decide +kernel
theorem dX6_back_17 : decode cX6_back 17 = .ok (.lcmp, 1) := by decide +kernel
theorem dX6_back_18 : decode cX6_back 18 = .ok (.ifCond .ne 23, 3) := by decide +kernel
theorem dX6_back_21 : decode cX6_back 21 = .ok (.aload_n 0, 1) := by decide +kernel
theorem dX6_back_22 : decode cX6_back 22 = .ok (.aload_n 0, 1) := by decide +kernel
theorem dX6_back_23 : decode cX6_back 23 = .ok (.iload_n 1, 1) := by decide +kernel
theorem dX6_back_24 : decode cX6_back 24 = .ok (.invokevirtual 94, 3) := by decide +kernel
theorem dX6_back_27 : decode cX6_back 27 = .ok (.ifCond .eq 7, 3) := by decide +kernel
theorem dX6_back_30 : decode cX6_back 30 = .ok (.iconst 2, 1) := by decide +kernel
theorem dX6_back_31 : decode cX6_back 31 = .ok (.goto 4, 3) := by decide +kernel
theorem dX6_back_34 : decode cX6_back 34 = .ok (.iconst 1, 1) := by decide +kernel
theorem dX6_back_35 : decode cX6_back 35 = .ok (.invokevirtual 79, 3) := by decide +kernel
theorem dX6_back_38 : decode cX6_back 38 = .ok (.pop, 1) := by decide +kernel
theorem dX6_back_39 : decode cX6_back 39 = .ok (.lconst 0, 1) := by decide +kernel
theorem dX6_back_40 : decode cX6_back 40 = .ok (.lreturn, 1) := by decide +kernel
theorem dX6_back_41 : decode cX6_back 41 = .ok (.aload_n 0, 1) := by decide +kernel
theorem dX6_back_42 : decode cX6_back 42 = .ok (.getfield 33, 3) := by decide +kernel
theorem dX6_back_45 : decode cX6_back 45 = .ok (.iload_n 1, 1) := by decide +kernel
theorem dX6_back_46 : decode cX6_back 46 = .ok (.laload, 1) := by decide +kernel
theorem dX6_back_47 : decode cX6_back 47 = .ok (.lreturn, 1) := by decide +kernel
theorem dX6_noise_0 : decode cX6_noise 0 = .ok (.aload_n 0, 1) := by decide +kernel
theorem dX6_noise_1 : decode cX6_noise 1 = .ok (.invokevirtual 68, 3) := by decide +kernel
theorem dX6_noise_4 : decode cX6_noise 4 = .ok (.iload_n 1, 1) := by decide +kernel
theorem dX6_noise_5 : decode cX6_noise 5 = .ok (.ifCond .lt 17, 3) := by decide +kernel
theorem dX6_noise_8 : decode cX6_noise 8 = .ok (.iload_n 1, 1) := by decide +kernel
theorem dX6_noise_9 : decode cX6_noise 9 = .ok (.iconst 1, 1) := by decide +kernel
theorem dX6_noise_10 : decode cX6_noise 10 = .ok (.if_icmp .gt 12, 3) := by decide +kernel
theorem dX6_noise_13 : decode cX6_noise 13 = .ok (.aload_n 0, 1) := by decide +kernel
theorem dX6_noise_14 : decode cX6_noise 14 = .ok (.getfield 64, 3) := by decide +kernel
theorem dX6_noise_17 : decode cX6_noise 17 = .ok (.lconst 0, 1) := by decide +kernel
theorem dX6_noise_18 : decode cX6_noise 18 = .ok (.lcmp, 1) := by decide +kernel
theorem dX6_noise_19 : decode cX6_noise 19 = .ok (.ifCond .ne 24, 3) := by decide +kernel
theorem dX6_noise_22 : decode cX6_noise 22 = .ok (.aload_n 0, 1) := by decide +kernel
theorem dX6_noise_23 : decode cX6_noise 23 = .ok (.iload_n 1, 1) := by decide +kernel
theorem dX6_noise_24 : decode cX6_noise 24 = .ok (.ifCond .lt 8, 3) := by decide +kernel
theorem dX6_noise_27 : decode cX6_noise 27 = .ok (.iload_n 1, 1) := by decide +kernel
theorem dX6_noise_28 : decode cX6_noise 28 = .ok (.iconst 1, 1) := by decide +kernel
theorem dX6_noise_29 : decode cX6_noise 29 = .ok (.if_icmp .le 7, 3) := by decide +kernel
theorem dX6_noise_32 : decode cX6_noise 32 = .ok (.iconst 1, 1) := by decide +kernel
theorem dX6_noise_33 : decode cX6_noise 33 = .ok (.goto 4, 3) := by decide +kernel
theorem dX6_noise_36 : decode cX6_noise 36 = .ok (.iconst 2, 1) := by decide +kernel
theorem dX6_noise_37 : decode cX6_noise 37 = .ok (.invokevirtual 79, 3) := by decide +kernel
theorem dX6_noise_40 : decode cX6_noise 40 = .ok (.pop, 1) := by decide +kernel
theorem dX6_noise_41 : decode cX6_noise 41 = .ok (.lconst 0, 1) := by decide +kernel
theorem dX6_noise_42 : decode cX6_noise 42 = .ok (.lreturn, 1) := by decide +kernel
theorem dX6_noise_43 : decode cX6_noise 43 = .ok (.lconst 0, 1) := by decide +kernel
theorem dX6_noise_44 : decode cX6_noise 44 = .ok (.lstore_n 2, 1) := by decide +kernel
theorem dX6_noise_45 : decode cX6_noise 45 = .ok (.iconst 0, 1) := by decide +kernel
theorem dX6_noise_46 : decode cX6_noise 46 = .ok (.istore 4, 2) := by decide +kernel
theorem dX6_noise_48 : decode cX6_noise 48 = .ok (.iload 4, 2) := by decide +kernel
theorem dX6_noise_50 : decode cX6_noise 50 = .ok (.aload_n 0, 1) := by decide +kernel
theorem dX6_noise_51 : decode cX6_noise 51 = .ok (.getfield 7, 3) := by decide +kernel
theorem dX6_noise_54 : decode cX6_noise 54 = .ok (.if_icmp .ge 27, 3) := by decide +kernel
theorem dX6_noise_57 : decode cX6_noise 57 = .ok (.lload_n 2, 1) := by decide +kernel
theorem dX6_noise_58 : decode cX6_noise 58 = .ok (.aload_n 0, 1) := by decide +kernel
theorem dX6_noise_59 : decode cX6_noise 59 = .ok (.getfield 33, 3) := by decide +kernel
theorem dX6_noise_62 : decode cX6_noise 62 = .ok (.iload 4, 2) := by decide +kernel
theorem dX6_noise_64 : decode cX6_noise 64 = .ok (.laload, 1) := by decide +kernel
theorem dX6_noise_65 : decode cX6_noise 65 = .ok (.aload_n 0, 1) := by decide +kernel
theorem dX6_noise_66 : decode cX6_noise 66 = .ok (.getfield 33, 3) := by decide +kernel
theorem dX6_noise_69 : decode cX6_noise 69 = .ok (.iload 4, 2) := by decide +kernel
theorem dX6_noise_71 : decode cX6_noise 71 = .ok (.laload, 1) := by decide +kernel
theorem dX6_noise_72 : decode cX6_noise 72 = .ok (.lmul, 1) := by decide +kernel
theorem dX6_noise_73 : decode cX6_noise 73 = .ok (.ladd, 1) := by decide +kernel
theorem dX6_noise_74 : decode cX6_noise 74 = .ok (.lstore_n 2, 1) := by decide +kernel
theorem dX6_noise_75 : decode cX6_noise 75 = .ok (.iinc 4 1, 3) := by decide +kernel
theorem dX6_noise_78 : decode cX6_noise 78 = .ok (.goto (-30), 3) := by decide +kernel
theorem dX6_noise_81 : decode cX6_noise 81 = .ok (.aload_n 0, 1) := by decide +kernel
theorem dX6_noise_82 : decode cX6_noise 82 = .ok (.getfield 64, 3) := by decide +kernel
theorem dX6_noise_85 : decode cX6_noise 85 = .ok (.aload_n 0, 1) := by decide +kernel
theorem dX6_noise_86 : decode cX6_noise 86 = .ok (.getfield 64, 3) := by decide +kernel
theorem dX6_noise_89 : decode cX6_noise 89 = .ok (.lmul, 1) := by decide +kernel
theorem dX6_noise_90 : decode cX6_noise 90 = .ok (.lstore 4, 2) := by decide +kernel
theorem dX6_noise_92 : decode cX6_noise 92 = .ok (.lload_n 2, 1) := by decide +kernel
theorem dX6_noise_93 : decode cX6_noise 93 = .ok (.lload 4, 2) := by decide +kernel
theorem dX6_noise_95 : decode cX6_noise 95 = .ok (.invokestatic 140, 3) := by decide +kernel
theorem dX6_noise_98 : decode cX6_noise 98 = .ok (.lstore 6, 2) := by decide +kernel
theorem dX6_noise_100 : decode cX6_noise 100 = .ok (.iload_n 1, 1) := by decide +kernel
theorem dX6_noise_101 : decode cX6_noise 101 = .ok (.ifCond .ne 7, 3) := by decide +kernel
theorem dX6_noise_104 : decode cX6_noise 104 = .ok (.lload_n 2, 1) := by decide +kernel
theorem dX6_noise_105 : decode cX6_noise 105 = .ok (.goto 5, 3) := by decide +kernel
theorem dX6_noise_108 : decode cX6_noise 108 = .ok (.lload 4, 2) := by decide +kernel
theorem dX6_noise_110 : decode cX6_noise 110 = .ok (.lload 6, 2) := by decide +kernel
theorem dX6_noise_112 : decode cX6_noise 112 = .ok (.ldiv, 1) := by decide +kernel
theorem dX6_noise_113 : decode cX6_noise 113 = .ok (.lreturn, 1) := by decide +kernel
theorem dX6_layShadow_0 : decode cX6_layShadow 0 = .ok (.iconst 0, 1) := by decide +kernel
theorem dX6_layShadow_1 : decode cX6_layShadow 1 = .ok (.istore 4, 2) := by decide +kernel
theorem dX6_layShadow_3 : decode cX6_layShadow 3 = .ok (.iconst 0, 1) := by decide +kernel
theorem dX6_layShadow_4 : decode cX6_layShadow 4 = .ok (.istore 5, 2) := by decide +kernel
theorem dX6_layShadow_6 : decode cX6_layShadow 6 = .ok (.iload 5, 2) := by decide +kernel
theorem dX6_layShadow_8 : decode cX6_layShadow 8 = .ok (.aload_n 0, 1) := by decide +kernel
theorem dX6_layShadow_9 : decode cX6_layShadow 9 = .ok (.getfield 7, 3) := by decide +kernel
theorem dX6_layShadow_12 : decode cX6_layShadow 12 = .ok (.if_icmp .ge 77, 3) := by decide +kernel
theorem dX6_layShadow_15 : decode cX6_layShadow 15 = .ok (.iload_n 1, 1) := by decide +kernel
theorem dX6_layShadow_16 : decode cX6_layShadow 16 = .ok (.ifCond .ne 16, 3) := by decide +kernel
theorem dX6_layShadow_19 : decode cX6_layShadow 19 = .ok (.aload_n 0, 1) := by decide +kernel
theorem dX6_layShadow_20 : decode cX6_layShadow 20 = .ok (.getfield 23, 3) := by decide +kernel
theorem dX6_layShadow_23 : decode cX6_layShadow 23 = .ok (.iload 5, 2) := by decide +kernel
theorem dX6_layShadow_25 : decode cX6_layShadow 25 = .ok (.baload, 1) := by decide +kernel
theorem dX6_layShadow_26 : decode cX6_layShadow 26 = .ok (.ifCond .eq 6, 3) := by decide +kernel
theorem dX6_layShadow_29 : decode cX6_layShadow 29 = .ok (.goto 54, 3) := by decide +kernel
theorem dX6_layShadow_32 : decode cX6_layShadow 32 = .ok (.iconst 0, 1) := by decide +kernel
theorem dX6_layShadow_33 : decode cX6_layShadow 33 = .ok (.istore 6, 2) := by decide +kernel
theorem dX6_layShadow_35 : decode cX6_layShadow 35 = .ok (.iload 6, 2) := by decide +kernel
theorem dX6_layShadow_37 : decode cX6_layShadow 37 = .ok (.iload_n 2, 1) := by decide +kernel
theorem dX6_layShadow_38 : decode cX6_layShadow 38 = .ok (.if_icmp .ge 42, 3) := by decide +kernel
theorem dX6_layShadow_41 : decode cX6_layShadow 41 = .ok (.aload_n 0, 1) := by decide +kernel
theorem dX6_layShadow_42 : decode cX6_layShadow 42 = .ok (.getfield 46, 3) := by decide +kernel
theorem dX6_layShadow_45 : decode cX6_layShadow 45 = .ok (.iload_n 3, 1) := by decide +kernel
theorem dX6_layShadow_46 : decode cX6_layShadow 46 = .ok (.iload 4, 2) := by decide +kernel
theorem dX6_layShadow_48 : decode cX6_layShadow 48 = .ok (.imul, 1) := by decide +kernel
theorem dX6_layShadow_49 : decode cX6_layShadow 49 = .ok (.iload 6, 2) := by decide +kernel
theorem dX6_layShadow_51 : decode cX6_layShadow 51 = .ok (.iadd, 1) := by decide +kernel
theorem dX6_layShadow_52 : decode cX6_layShadow 52 = .ok (.aload_n 0, 1) := by decide +kernel
theorem dX6_layShadow_53 : decode cX6_layShadow 53 = .ok (.getfield 13, 3) := by decide +kernel
theorem dX6_layShadow_56 : decode cX6_layShadow 56 = .ok (.iload 6, 2) := by decide +kernel
theorem dX6_layShadow_58 : decode cX6_layShadow 58 = .ok (.iload 5, 2) := by decide +kernel
theorem dX6_layShadow_60 : decode cX6_layShadow 60 = .ok (.isub, 1) := by decide +kernel
theorem dX6_layShadow_61 : decode cX6_layShadow 61 = .ok (.aload_n 0, 1) := by decide +kernel
theorem dX6_layShadow_62 : decode cX6_layShadow 62 = .ok (.getfield 7, 3) := by decide +kernel
theorem dX6_layShadow_65 : decode cX6_layShadow 65 = .ok (.iadd, 1) := by decide +kernel
theorem dX6_layShadow_66 : decode cX6_layShadow 66 = .ok (.aload_n 0, 1) := by decide +kernel
theorem dX6_layShadow_67 : decode cX6_layShadow 67 = .ok (.getfield 7, 3) := by decide +kernel
theorem dX6_layShadow_70 : decode cX6_layShadow 70 = .ok (.irem, 1) := by decide +kernel
theorem dX6_layShadow_71 : decode cX6_layShadow 71 = .ok (.iaload, 1) := by decide +kernel
theorem dX6_layShadow_72 : decode cX6_layShadow 72 = .ok (.i2l, 1) := by decide +kernel
theorem dX6_layShadow_73 : decode cX6_layShadow 73 = .ok (.lastore, 1) := by decide +kernel
theorem dX6_layShadow_74 : decode cX6_layShadow 74 = .ok (.iinc 6 1, 3) := by decide +kernel
theorem dX6_layShadow_77 : decode cX6_layShadow 77 = .ok (.goto (-42), 3) := by decide +kernel
theorem dX6_layShadow_80 : decode cX6_layShadow 80 = .ok (.iinc 4 1, 3) := by decide +kernel
theorem dX6_layShadow_83 : decode cX6_layShadow 83 = .ok (.iinc 5 1, 3) := by decide +kernel
theorem dX6_layShadow_86 : decode cX6_layShadow 86 = .ok (.goto (-80), 3) := by decide +kernel
theorem dX6_layShadow_89 : decode cX6_layShadow 89 = .ok (.iload 4, 2) := by decide +kernel
theorem dX6_layShadow_91 : decode cX6_layShadow 91 = .ok (.ireturn, 1) := by decide +kernel
theorem dX6_rank_0 : decode cX6_rank 0 = .ok (.aload_n 0, 1) := by decide +kernel
theorem dX6_rank_1 : decode cX6_rank 1 = .ok (.invokevirtual 68, 3) := by decide +kernel
theorem dX6_rank_4 : decode cX6_rank 4 = .ok (.aload_n 0, 1) := by decide +kernel
theorem dX6_rank_5 : decode cX6_rank 5 = .ok (.getfield 7, 3) := by decide +kernel
theorem dX6_rank_8 : decode cX6_rank 8 = .ok (.bipush 14, 2) := by decide +kernel
theorem dX6_rank_10 : decode cX6_rank 10 = .ok (.if_icmp .le 9, 3) := by decide +kernel
theorem dX6_rank_13 : decode cX6_rank 13 = .ok (.aload_n 0, 1) := by decide +kernel
theorem dX6_rank_14 : decode cX6_rank 14 = .ok (.iconst 1, 1) := by decide +kernel
theorem dX6_rank_15 : decode cX6_rank 15 = .ok (.invokevirtual 79, 3) := by decide +kernel
theorem dX6_rank_18 : decode cX6_rank 18 = .ok (.ireturn, 1) := by decide +kernel
theorem dX6_rank_19 : decode cX6_rank 19 = .ok (.aload_n 0, 1) := by decide +kernel
theorem dX6_rank_20 : decode cX6_rank 20 = .ok (.aload_n 0, 1) := by decide +kernel
theorem dX6_rank_21 : decode cX6_rank 21 = .ok (.iconst 1, 1) := by decide +kernel
theorem dX6_rank_22 : decode cX6_rank 22 = .ok (.aload_n 0, 1) := by decide +kernel
theorem dX6_rank_23 : decode cX6_rank 23 = .ok (.getfield 7, 3) := by decide +kernel
theorem dX6_rank_26 : decode cX6_rank 26 = .ok (.aload_n 0, 1) := by decide +kernel
theorem dX6_rank_27 : decode cX6_rank 27 = .ok (.getfield 7, 3) := by decide +kernel
theorem dX6_rank_30 : decode cX6_rank 30 = .ok (.invokevirtual 148, 3) := by decide +kernel
theorem dX6_rank_33 : decode cX6_rank 33 = .ok (.aload_n 0, 1) := by decide +kernel
theorem dX6_rank_34 : decode cX6_rank 34 = .ok (.getfield 7, 3) := by decide +kernel
theorem dX6_rank_37 : decode cX6_rank 37 = .ok (.aload_n 0, 1) := by decide +kernel
theorem dX6_rank_38 : decode cX6_rank 38 = .ok (.getfield 7, 3) := by decide +kernel
theorem dX6_rank_41 : decode cX6_rank 41 = .ok (.invokevirtual 136, 3) := by decide +kernel
theorem dX6_rank_44 : decode cX6_rank 44 = .ok (.ireturn, 1) := by decide +kernel
theorem dX6_sure_0 : decode cX6_sure 0 = .ok (.aload_n 0, 1) := by decide +kernel
theorem dX6_sure_1 : decode cX6_sure 1 = .ok (.invokevirtual 68, 3) := by decide +kernel
theorem dX6_sure_4 : decode cX6_sure 4 = .ok (.aload_n 0, 1) := by decide +kernel
theorem dX6_sure_5 : decode cX6_sure 5 = .ok (.getfield 7, 3) := by decide +kernel
theorem dX6_sure_8 : decode cX6_sure 8 = .ok (.bipush 14, 2) := by decide +kernel
theorem dX6_sure_10 : decode cX6_sure 10 = .ok (.if_icmp .le 9, 3) := by decide +kernel
theorem dX6_sure_13 : decode cX6_sure 13 = .ok (.aload_n 0, 1) := by decide +kernel
theorem dX6_sure_14 : decode cX6_sure 14 = .ok (.iconst 1, 1) := by decide +kernel
theorem dX6_sure_15 : decode cX6_sure 15 = .ok (.invokevirtual 79, 3) := by decide +kernel
theorem dX6_sure_18 : decode cX6_sure 18 = .ok (.ireturn, 1) := by decide +kernel
theorem dX6_sure_19 : decode cX6_sure 19 = .ok (.aload_n 0, 1) := by decide +kernel
theorem dX6_sure_20 : decode cX6_sure 20 = .ok (.aload_n 0, 1) := by decide +kernel
theorem dX6_sure_21 : decode cX6_sure 21 = .ok (.iconst 0, 1) := by decide +kernel
theorem dX6_sure_22 : decode cX6_sure 22 = .ok (.aload_n 0, 1) := by decide +kernel
theorem dX6_sure_23 : decode cX6_sure 23 = .ok (.getfield 7, 3) := by decide +kernel
theorem dX6_sure_26 : decode cX6_sure 26 = .ok (.aload_n 0, 1) := by decide +kernel
theorem dX6_sure_27 : decode cX6_sure 27 = .ok (.getfield 7, 3) := by decide +kernel
theorem dX6_sure_30 : decode cX6_sure 30 = .ok (.invokevirtual 148, 3) := by decide +kernel
theorem dX6_sure_33 : decode cX6_sure 33 = .ok (.aload_n 0, 1) := by decide +kernel
theorem dX6_sure_34 : decode cX6_sure 34 = .ok (.getfield 7, 3) := by decide +kernel
theorem dX6_sure_37 : decode cX6_sure 37 = .ok (.aload_n 0, 1) := by decide +kernel
theorem dX6_sure_38 : decode cX6_sure 38 = .ok (.getfield 7, 3) := by decide +kernel
theorem dX6_sure_41 : decode cX6_sure 41 = .ok (.invokevirtual 136, 3) := by decide +kernel
theorem dX6_sure_44 : decode cX6_sure 44 = .ok (.aload_n 0, 1) := by decide +kernel
theorem dX6_sure_45 : decode cX6_sure 45 = .ok (.getfield 7, 3) := by decide +kernel
theorem dX6_sure_48 : decode cX6_sure 48 = .ok (.if_icmp .ne 7, 3) := by decide +kernel
theorem dX6_sure_51 : decode cX6_sure 51 = .ok (.iconst 1, 1) := by decide +kernel
theorem dX6_sure_52 : decode cX6_sure 52 = .ok (.goto 4, 3) := by decide +kernel
theorem dX6_sure_55 : decode cX6_sure 55 = .ok (.iconst 0, 1) := by decide +kernel
theorem dX6_sure_56 : decode cX6_sure 56 = .ok (.ireturn, 1) := by decide +kernel
theorem dX6_lost_0 : decode cX6_lost 0 = .ok (.aload_n 0, 1) := by decide +kernel
theorem dX6_lost_1 : decode cX6_lost 1 = .ok (.invokevirtual 68, 3) := by decide +kernel
theorem dX6_lost_4 : decode cX6_lost 4 = .ok (.aload_n 0, 1) := by decide +kernel
theorem dX6_lost_5 : decode cX6_lost 5 = .ok (.getfield 7, 3) := by decide +kernel
theorem dX6_lost_8 : decode cX6_lost 8 = .ok (.bipush 14, 2) := by decide +kernel
theorem dX6_lost_10 : decode cX6_lost 10 = .ok (.if_icmp .le 9, 3) := by decide +kernel
theorem dX6_lost_13 : decode cX6_lost 13 = .ok (.aload_n 0, 1) := by decide +kernel
theorem dX6_lost_14 : decode cX6_lost 14 = .ok (.iconst 1, 1) := by decide +kernel
theorem dX6_lost_15 : decode cX6_lost 15 = .ok (.invokevirtual 79, 3) := by decide +kernel
theorem dX6_lost_18 : decode cX6_lost 18 = .ok (.ireturn, 1) := by decide +kernel
theorem dX6_lost_19 : decode cX6_lost 19 = .ok (.iconst 0, 1) := by decide +kernel
theorem dX6_lost_20 : decode cX6_lost 20 = .ok (.istore_n 1, 1) := by decide +kernel
theorem dX6_lost_21 : decode cX6_lost 21 = .ok (.iload_n 1, 1) := by decide +kernel
theorem dX6_lost_22 : decode cX6_lost 22 = .ok (.aload_n 0, 1) := by decide +kernel
theorem dX6_lost_23 : decode cX6_lost 23 = .ok (.getfield 7, 3) := by decide +kernel
theorem dX6_lost_26 : decode cX6_lost 26 = .ok (.if_icmp .ge 223, 3) := by decide +kernel
theorem dX6_lost_29 : decode cX6_lost 29 = .ok (.iload_n 1, 1) := by decide +kernel
theorem dX6_lost_30 : decode cX6_lost 30 = .ok (.iconst 1, 1) := by decide +kernel
theorem dX6_lost_31 : decode cX6_lost 31 = .ok (.iadd, 1) := by decide +kernel
theorem dX6_lost_32 : decode cX6_lost 32 = .ok (.istore_n 2, 1) := by decide +kernel
theorem dX6_lost_33 : decode cX6_lost 33 = .ok (.aload_n 0, 1) := by decide +kernel
theorem dX6_lost_34 : decode cX6_lost 34 = .ok (.iconst 1, 1) := by decide +kernel
theorem dX6_lost_35 : decode cX6_lost 35 = .ok (.iload_n 2, 1) := by decide +kernel
theorem dX6_lost_36 : decode cX6_lost 36 = .ok (.iload_n 2, 1) := by decide +kernel
theorem dX6_lost_37 : decode cX6_lost 37 = .ok (.invokevirtual 148, 3) := by decide +kernel
theorem dX6_lost_40 : decode cX6_lost 40 = .ok (.istore_n 3, 1) := by decide +kernel
theorem dX6_lost_41 : decode cX6_lost 41 = .ok (.aload_n 0, 1) := by decide +kernel
theorem dX6_lost_42 : decode cX6_lost 42 = .ok (.iload_n 3, 1) := by decide +kernel
theorem dX6_lost_43 : decode cX6_lost 43 = .ok (.iload_n 1, 1) := by decide +kernel
theorem dX6_lost_44 : decode cX6_lost 44 = .ok (.iload_n 2, 1) := by decide +kernel
theorem dX6_lost_45 : decode cX6_lost 45 = .ok (.invokevirtual 136, 3) := by decide +kernel
theorem dX6_lost_48 : decode cX6_lost 48 = .ok (.istore 4, 2) := by decide +kernel
theorem dX6_lost_50 : decode cX6_lost 50 = .ok (.iconst 1, 1) := by decide +kernel
theorem dX6_lost_51 : decode cX6_lost 51 = .ok (.istore 5, 2) := by decide +kernel
theorem dX6_lost_53 : decode cX6_lost 53 = .ok (.iload 4, 2) := by decide +kernel
theorem dX6_lost_55 : decode cX6_lost 55 = .ok (.istore 6, 2) := by decide +kernel
theorem dX6_lost_57 : decode cX6_lost 57 = .ok (.iload 6, 2) := by decide +kernel
theorem dX6_lost_59 : decode cX6_lost 59 = .ok (.iload_n 3, 1) := by decide +kernel
theorem dX6_lost_60 : decode cX6_lost 60 = .ok (.if_icmp .ge 37, 3) := by decide +kernel
theorem dX6_lost_63 : decode cX6_lost 63 = .ok (.iload 5, 2) := by decide +kernel
theorem dX6_lost_65 : decode cX6_lost 65 = .ok (.ifCond .eq 23, 3) := by decide +kernel
theorem dX6_lost_68 : decode cX6_lost 68 = .ok (.aload_n 0, 1) := by decide +kernel
theorem dX6_lost_69 : decode cX6_lost 69 = .ok (.getfield 46, 3) := by decide +kernel
theorem dX6_lost_72 : decode cX6_lost 72 = .ok (.iload_n 2, 1) := by decide +kernel
theorem dX6_lost_73 : decode cX6_lost 73 = .ok (.iload 6, 2) := by decide +kernel
theorem dX6_lost_75 : decode cX6_lost 75 = .ok (.imul, 1) := by decide +kernel
theorem dX6_lost_76 : decode cX6_lost 76 = .ok (.iload_n 1, 1) := by decide +kernel
theorem dX6_lost_77 : decode cX6_lost 77 = .ok (.iadd, 1) := by decide +kernel
theorem dX6_lost_78 : decode cX6_lost 78 = .ok (.laload, 1) := by decide +kernel
theorem dX6_lost_79 : decode cX6_lost 79 = .ok (.lconst 0, 1) := by decide +kernel
theorem dX6_lost_80 : decode cX6_lost 80 = .ok (.lcmp, 1) := by decide +kernel
theorem dX6_lost_81 : decode cX6_lost 81 = .ok (.ifCond .ne 7, 3) := by decide +kernel
theorem dX6_lost_84 : decode cX6_lost 84 = .ok (.iconst 1, 1) := by decide +kernel
theorem dX6_lost_85 : decode cX6_lost 85 = .ok (.goto 4, 3) := by decide +kernel
theorem dX6_lost_88 : decode cX6_lost 88 = .ok (.iconst 0, 1) := by decide +kernel
theorem dX6_lost_89 : decode cX6_lost 89 = .ok (.istore 5, 2) := by decide +kernel
theorem dX6_lost_91 : decode cX6_lost 91 = .ok (.iinc 6 1, 3) := by decide +kernel
theorem dX6_lost_94 : decode cX6_lost 94 = .ok (.goto (-37), 3) := by decide +kernel
theorem dX6_lost_97 : decode cX6_lost 97 = .ok (.iload 5, 2) := by decide +kernel
theorem dX6_lost_99 : decode cX6_lost 99 = .ok (.ifCond .ne 6, 3) := by decide +kernel
theorem dX6_lost_102 : decode cX6_lost 102 = .ok (.goto 141, 3) := by decide +kernel
theorem dX6_lost_105 : decode cX6_lost 105 = .ok (.iconst 0, 1) := by decide +kernel
theorem dX6_lost_106 : decode cX6_lost 106 = .ok (.istore 6, 2) := by decide +kernel
theorem dX6_lost_108 : decode cX6_lost 108 = .ok (.iload 6, 2) := by decide +kernel
theorem dX6_lost_110 : decode cX6_lost 110 = .ok (.iload_n 1, 1) := by decide +kernel
theorem dX6_lost_111 : decode cX6_lost 111 = .ok (.if_icmp .ge 28, 3) := by decide +kernel
theorem dX6_lost_114 : decode cX6_lost 114 = .ok (.aload_n 0, 1) := by decide +kernel
theorem dX6_lost_115 : decode cX6_lost 115 = .ok (.getfield 49, 3) := by decide +kernel
theorem dX6_lost_118 : decode cX6_lost 118 = .ok (.iload 6, 2) := by decide +kernel
theorem dX6_lost_120 : decode cX6_lost 120 = .ok (.aload_n 0, 1) := by decide +kernel
theorem dX6_lost_121 : decode cX6_lost 121 = .ok (.getfield 46, 3) := by decide +kernel
theorem dX6_lost_124 : decode cX6_lost 124 = .ok (.iload_n 2, 1) := by decide +kernel
theorem dX6_lost_125 : decode cX6_lost 125 = .ok (.iload 6, 2) := by decide +kernel
theorem dX6_lost_127 : decode cX6_lost 127 = .ok (.imul, 1) := by decide +kernel
theorem dX6_lost_128 : decode cX6_lost 128 = .ok (.iload_n 1, 1) := by decide +kernel
theorem dX6_lost_129 : decode cX6_lost 129 = .ok (.iadd, 1) := by decide +kernel
theorem dX6_lost_130 : decode cX6_lost 130 = .ok (.laload, 1) := by decide +kernel
theorem dX6_lost_131 : decode cX6_lost 131 = .ok (.lneg, 1) := by decide +kernel
theorem dX6_lost_132 : decode cX6_lost 132 = .ok (.lastore, 1) := by decide +kernel
theorem dX6_lost_133 : decode cX6_lost 133 = .ok (.iinc 6 1, 3) := by decide +kernel
theorem dX6_lost_136 : decode cX6_lost 136 = .ok (.goto (-28), 3) := by decide +kernel
theorem dX6_lost_139 : decode cX6_lost 139 = .ok (.aload_n 0, 1) := by decide +kernel
theorem dX6_lost_140 : decode cX6_lost 140 = .ok (.getfield 49, 3) := by decide +kernel
theorem dX6_lost_143 : decode cX6_lost 143 = .ok (.iload_n 1, 1) := by decide +kernel
theorem dX6_lost_144 : decode cX6_lost 144 = .ok (.aload_n 0, 1) := by decide +kernel
theorem dX6_lost_145 : decode cX6_lost 145 = .ok (.getfield 133, 3) := by decide +kernel
theorem dX6_lost_148 : decode cX6_lost 148 = .ok (.lastore, 1) := by decide +kernel
theorem dX6_lost_149 : decode cX6_lost 149 = .ok (.lconst 0, 1) := by decide +kernel
theorem dX6_lost_150 : decode cX6_lost 150 = .ok (.lstore 6, 2) := by decide +kernel
theorem dX6_lost_152 : decode cX6_lost 152 = .ok (.iconst 0, 1) := by decide +kernel
theorem dX6_lost_153 : decode cX6_lost 153 = .ok (.istore 8, 2) := by decide +kernel
theorem dX6_lost_155 : decode cX6_lost 155 = .ok (.iload 8, 2) := by decide +kernel
theorem dX6_lost_157 : decode cX6_lost 157 = .ok (.iload_n 1, 1) := by decide +kernel
theorem dX6_lost_158 : decode cX6_lost 158 = .ok (.if_icmp .gt 23, 3) := by decide +kernel
theorem dX6_lost_161 : decode cX6_lost 161 = .ok (.lload 6, 2) := by decide +kernel
theorem dX6_lost_163 : decode cX6_lost 163 = .ok (.aload_n 0, 1) := by decide +kernel
theorem dX6_lost_164 : decode cX6_lost 164 = .ok (.getfield 49, 3) := by decide +kernel
theorem dX6_lost_167 : decode cX6_lost 167 = .ok (.iload 8, 2) := by decide +kernel
theorem dX6_lost_169 : decode cX6_lost 169 = .ok (.laload, 1) := by decide +kernel
theorem dX6_lost_170 : decode cX6_lost 170 = .ok (.invokestatic 140, 3) := by decide +kernel
theorem dX6_lost_173 : decode cX6_lost 173 = .ok (.lstore 6, 2) := by decide +kernel
theorem dX6_lost_175 : decode cX6_lost 175 = .ok (.iinc 8 1, 3) := by decide +kernel
theorem dX6_lost_178 : decode cX6_lost 178 = .ok (.goto (-23), 3) := by decide +kernel
theorem dX6_lost_181 : decode cX6_lost 181 = .ok (.aload_n 0, 1) := by decide +kernel
theorem dX6_lost_182 : decode cX6_lost 182 = .ok (.getfield 133, 3) := by decide +kernel
theorem dX6_lost_185 : decode cX6_lost 185 = .ok (.lconst 0, 1) := by decide +kernel
theorem dX6_lost_186 : decode cX6_lost 186 = .ok (.lcmp, 1) := by decide +kernel
theorem dX6_lost_187 : decode cX6_lost 187 = .ok (.ifCond .ge 8, 3) := by decide +kernel
theorem dX6_lost_190 : decode cX6_lost 190 = .ok (.lload 6, 2) := by decide +kernel
theorem dX6_lost_192 : decode cX6_lost 192 = .ok (.lneg, 1) := by decide +kernel
theorem dX6_lost_193 : decode cX6_lost 193 = .ok (.lstore 6, 2) := by decide +kernel
theorem dX6_lost_195 : decode cX6_lost 195 = .ok (.iconst 0, 1) := by decide +kernel
theorem dX6_lost_196 : decode cX6_lost 196 = .ok (.istore 8, 2) := by decide +kernel
theorem dX6_lost_198 : decode cX6_lost 198 = .ok (.iload 8, 2) := by decide +kernel
theorem dX6_lost_200 : decode cX6_lost 200 = .ok (.aload_n 0, 1) := by decide +kernel
theorem dX6_lost_201 : decode cX6_lost 201 = .ok (.getfield 7, 3) := by decide +kernel
theorem dX6_lost_204 : decode cX6_lost 204 = .ok (.if_icmp .ge 37, 3) := by decide +kernel
theorem dX6_lost_207 : decode cX6_lost 207 = .ok (.aload_n 0, 1) := by decide +kernel
theorem dX6_lost_208 : decode cX6_lost 208 = .ok (.getfield 17, 3) := by decide +kernel
theorem dX6_lost_211 : decode cX6_lost 211 = .ok (.iload 8, 2) := by decide +kernel
theorem dX6_lost_213 : decode cX6_lost 213 = .ok (.iload 8, 2) := by decide +kernel
theorem dX6_lost_215 : decode cX6_lost 215 = .ok (.iload_n 1, 1) := by decide +kernel
theorem dX6_lost_216 : decode cX6_lost 216 = .ok (.if_icmp .gt 17, 3) := by decide +kernel
theorem dX6_lost_219 : decode cX6_lost 219 = .ok (.aload_n 0, 1) := by decide +kernel
theorem dX6_lost_220 : decode cX6_lost 220 = .ok (.getfield 49, 3) := by decide +kernel
theorem dX6_lost_223 : decode cX6_lost 223 = .ok (.iload 8, 2) := by decide +kernel
theorem dX6_lost_225 : decode cX6_lost 225 = .ok (.laload, 1) := by decide +kernel
theorem dX6_lost_226 : decode cX6_lost 226 = .ok (.lload 6, 2) := by decide +kernel
theorem dX6_lost_228 : decode cX6_lost 228 = .ok (.ldiv, 1) := by decide +kernel
theorem dX6_lost_229 : decode cX6_lost 229 = .ok (.l2i, 1) := by decide +kernel
theorem dX6_lost_230 : decode cX6_lost 230 = .ok (.goto 4, 3) := by decide +kernel
theorem dX6_lost_233 : decode cX6_lost 233 = .ok (.iconst 0, 1) := by decide +kernel
theorem dX6_lost_234 : decode cX6_lost 234 = .ok (.iastore, 1) := by decide +kernel
theorem dX6_lost_235 : decode cX6_lost 235 = .ok (.iinc 8 1, 3) := by decide +kernel
theorem dX6_lost_238 : decode cX6_lost 238 = .ok (.goto (-40), 3) := by decide +kernel
theorem dX6_lost_241 : decode cX6_lost 241 = .ok (.iload_n 1, 1) := by decide +kernel
theorem dX6_lost_242 : decode cX6_lost 242 = .ok (.ireturn, 1) := by decide +kernel
theorem dX6_lost_243 : decode cX6_lost 243 = .ok (.iinc 1 1, 3) := by decide +kernel
theorem dX6_lost_246 : decode cX6_lost 246 = .ok (.goto (-225), 3) := by decide +kernel
theorem dX6_lost_249 : decode cX6_lost 249 = .ok (.iconst (-1), 1) := by decide +kernel
theorem dX6_lost_250 : decode cX6_lost 250 = .ok (.ireturn, 1) := by decide +kernel
theorem dX6_solve_0 : decode cX6_solve 0 = .ok (.aload_n 0, 1) := by decide +kernel
theorem dX6_solve_1 : decode cX6_solve 1 = .ok (.invokevirtual 68, 3) := by decide +kernel
theorem dX6_solve_4 : decode cX6_solve 4 = .ok (.iconst 1, 1) := by decide +kernel
theorem dX6_solve_5 : decode cX6_solve 5 = .ok (.istore_n 1, 1) := by decide +kernel
theorem dX6_solve_6 : decode cX6_solve 6 = .ok (.iconst 0, 1) := by decide +kernel
theorem dX6_solve_7 : decode cX6_solve 7 = .ok (.istore_n 2, 1) := by decide +kernel
theorem dX6_solve_8 : decode cX6_solve 8 = .ok (.iload_n 2, 1) := by decide +kernel
theorem dX6_solve_9 : decode cX6_solve 9 = .ok (.aload_n 0, 1) := by decide +kernel
theorem dX6_solve_10 : decode cX6_solve 10 = .ok (.getfield 7, 3) := by decide +kernel
theorem dX6_solve_13 : decode cX6_solve 13 = .ok (.if_icmp .ge 28, 3) := by decide +kernel
theorem dX6_solve_16 : decode cX6_solve 16 = .ok (.iload_n 1, 1) := by decide +kernel
theorem dX6_solve_17 : decode cX6_solve 17 = .ok (.ifCond .eq 16, 3) := by decide +kernel
theorem dX6_solve_20 : decode cX6_solve 20 = .ok (.aload_n 0, 1) := by decide +kernel
theorem dX6_solve_21 : decode cX6_solve 21 = .ok (.getfield 23, 3) := by decide +kernel
theorem dX6_solve_24 : decode cX6_solve 24 = .ok (.iload_n 2, 1) := by decide +kernel
theorem dX6_solve_25 : decode cX6_solve 25 = .ok (.baload, 1) := by decide +kernel
theorem dX6_solve_26 : decode cX6_solve 26 = .ok (.ifCond .ne 7, 3) := by decide +kernel
theorem dX6_solve_29 : decode cX6_solve 29 = .ok (.iconst 1, 1) := by decide +kernel
theorem dX6_solve_30 : decode cX6_solve 30 = .ok (.goto 4, 3) := by decide +kernel
theorem dX6_solve_33 : decode cX6_solve 33 = .ok (.iconst 0, 1) := by decide +kernel
theorem dX6_solve_34 : decode cX6_solve 34 = .ok (.istore_n 1, 1) := by decide +kernel
theorem dX6_solve_35 : decode cX6_solve 35 = .ok (.iinc 2 1, 3) := by decide +kernel
theorem dX6_solve_38 : decode cX6_solve 38 = .ok (.goto (-30), 3) := by decide +kernel
theorem dX6_solve_41 : decode cX6_solve 41 = .ok (.aload_n 0, 1) := by decide +kernel
theorem dX6_solve_42 : decode cX6_solve 42 = .ok (.getfield 7, 3) := by decide +kernel
theorem dX6_solve_45 : decode cX6_solve 45 = .ok (.bipush 14, 2) := by decide +kernel
theorem dX6_solve_47 : decode cX6_solve 47 = .ok (.if_icmp .gt 7, 3) := by decide +kernel
theorem dX6_solve_50 : decode cX6_solve 50 = .ok (.iload_n 1, 1) := by decide +kernel
theorem dX6_solve_51 : decode cX6_solve 51 = .ok (.ifCond .ne 9, 3) := by decide +kernel
theorem dX6_solve_54 : decode cX6_solve 54 = .ok (.aload_n 0, 1) := by decide +kernel
theorem dX6_solve_55 : decode cX6_solve 55 = .ok (.iconst 1, 1) := by decide +kernel
theorem dX6_solve_56 : decode cX6_solve 56 = .ok (.invokevirtual 79, 3) := by decide +kernel
theorem dX6_solve_59 : decode cX6_solve 59 = .ok (.ireturn, 1) := by decide +kernel
theorem dX6_solve_60 : decode cX6_solve 60 = .ok (.aload_n 0, 1) := by decide +kernel
theorem dX6_solve_61 : decode cX6_solve 61 = .ok (.invokevirtual 144, 3) := by decide +kernel
theorem dX6_solve_64 : decode cX6_solve 64 = .ok (.ifCond .ne 5, 3) := by decide +kernel
theorem dX6_solve_67 : decode cX6_solve 67 = .ok (.iconst 0, 1) := by decide +kernel
theorem dX6_solve_68 : decode cX6_solve 68 = .ok (.ireturn, 1) := by decide +kernel
theorem dX6_solve_69 : decode cX6_solve 69 = .ok (.iconst 0, 1) := by decide +kernel
theorem dX6_solve_70 : decode cX6_solve 70 = .ok (.istore_n 2, 1) := by decide +kernel
theorem dX6_solve_71 : decode cX6_solve 71 = .ok (.iload_n 2, 1) := by decide +kernel
theorem dX6_solve_72 : decode cX6_solve 72 = .ok (.aload_n 0, 1) := by decide +kernel
theorem dX6_solve_73 : decode cX6_solve 73 = .ok (.getfield 7, 3) := by decide +kernel
theorem dX6_solve_76 : decode cX6_solve 76 = .ok (.if_icmp .ge 108, 3) := by decide +kernel
theorem dX6_solve_79 : decode cX6_solve 79 = .ok (.lconst 0, 1) := by decide +kernel
theorem dX6_solve_80 : decode cX6_solve 80 = .ok (.lstore_n 3, 1) := by decide +kernel
theorem dX6_solve_81 : decode cX6_solve 81 = .ok (.iconst 0, 1) := by decide +kernel
theorem dX6_solve_82 : decode cX6_solve 82 = .ok (.istore 5, 2) := by decide +kernel
theorem dX6_solve_84 : decode cX6_solve 84 = .ok (.iload 5, 2) := by decide +kernel
theorem dX6_solve_86 : decode cX6_solve 86 = .ok (.aload_n 0, 1) := by decide +kernel
theorem dX6_solve_87 : decode cX6_solve 87 = .ok (.getfield 7, 3) := by decide +kernel
theorem dX6_solve_90 : decode cX6_solve 90 = .ok (.if_icmp .ge 35, 3) := by decide +kernel
theorem dX6_solve_93 : decode cX6_solve 93 = .ok (.lload_n 3, 1) := by decide +kernel
theorem dX6_solve_94 : decode cX6_solve 94 = .ok (.aload_n 0, 1) := by decide +kernel
theorem dX6_solve_95 : decode cX6_solve 95 = .ok (.getfield 52, 3) := by decide +kernel
theorem dX6_solve_98 : decode cX6_solve 98 = .ok (.iload 5, 2) := by decide +kernel
theorem dX6_solve_100 : decode cX6_solve 100 = .ok (.laload, 1) := by decide +kernel
theorem dX6_solve_101 : decode cX6_solve 101 = .ok (.aload_n 0, 1) := by decide +kernel
theorem dX6_solve_102 : decode cX6_solve 102 = .ok (.getfield 20, 3) := by decide +kernel
theorem dX6_solve_105 : decode cX6_solve 105 = .ok (.iload_n 2, 1) := by decide +kernel
theorem dX6_solve_106 : decode cX6_solve 106 = .ok (.iload 5, 2) := by decide +kernel
theorem dX6_solve_108 : decode cX6_solve 108 = .ok (.iadd, 1) := by decide +kernel
theorem dX6_solve_109 : decode cX6_solve 109 = .ok (.aload_n 0, 1) := by decide +kernel
theorem dX6_solve_110 : decode cX6_solve 110 = .ok (.getfield 7, 3) := by decide +kernel
theorem dX6_solve_113 : decode cX6_solve 113 = .ok (.irem, 1) := by decide +kernel
theorem dX6_solve_114 : decode cX6_solve 114 = .ok (.iaload, 1) := by decide +kernel
theorem dX6_solve_115 : decode cX6_solve 115 = .ok (.i2l, 1) := by decide +kernel
theorem dX6_solve_116 : decode cX6_solve 116 = .ok (.lmul, 1) := by decide +kernel
theorem dX6_solve_117 : decode cX6_solve 117 = .ok (.ladd, 1) := by decide +kernel
theorem dX6_solve_118 : decode cX6_solve 118 = .ok (.lstore_n 3, 1) := by decide +kernel
theorem dX6_solve_119 : decode cX6_solve 119 = .ok (.iinc 5 1, 3) := by decide +kernel
theorem dX6_solve_122 : decode cX6_solve 122 = .ok (.goto (-38), 3) := by decide +kernel
theorem dX6_solve_125 : decode cX6_solve 125 = .ok (.lload_n 3, 1) := by decide +kernel
theorem dX6_solve_126 : decode cX6_solve 126 = .ok (.aload_n 0, 1) := by decide +kernel
theorem dX6_solve_127 : decode cX6_solve 127 = .ok (.getfield 133, 3) := by decide +kernel
theorem dX6_solve_130 : decode cX6_solve 130 = .ok (.lrem, 1) := by decide +kernel
theorem dX6_solve_131 : decode cX6_solve 131 = .ok (.lconst 0, 1) := by decide +kernel
theorem dX6_solve_132 : decode cX6_solve 132 = .ok (.lcmp, 1) := by decide +kernel
theorem dX6_solve_133 : decode cX6_solve 133 = .ok (.ifCond .ne 29, 3) := by decide +kernel
theorem dX6_solve_136 : decode cX6_solve 136 = .ok (.lload_n 3, 1) := by decide +kernel
theorem dX6_solve_137 : decode cX6_solve 137 = .ok (.aload_n 0, 1) := by decide +kernel
theorem dX6_solve_138 : decode cX6_solve 138 = .ok (.getfield 133, 3) := by decide +kernel
theorem dX6_solve_141 : decode cX6_solve 141 = .ok (.ldiv, 1) := by decide +kernel
theorem dX6_solve_142 : decode cX6_solve 142 = .ok (.ldc2_w 152, 3) := by decide +kernel
theorem dX6_solve_145 : decode cX6_solve 145 = .ok (.lcmp, 1) := by decide +kernel
theorem dX6_solve_146 : decode cX6_solve 146 = .ok (.ifCond .lt 16, 3) := by decide +kernel
theorem dX6_solve_149 : decode cX6_solve 149 = .ok (.lload_n 3, 1) := by decide +kernel
theorem dX6_solve_150 : decode cX6_solve 150 = .ok (.aload_n 0, 1) := by decide +kernel
theorem dX6_solve_151 : decode cX6_solve 151 = .ok (.getfield 133, 3) := by decide +kernel
theorem dX6_solve_154 : decode cX6_solve 154 = .ok (.ldiv, 1) := by decide +kernel
theorem dX6_solve_155 : decode cX6_solve 155 = .ok (.ldc2_w 154, 3) := by decide +kernel
theorem dX6_solve_158 : decode cX6_solve 158 = .ok (.lcmp, 1) := by decide +kernel
theorem dX6_solve_159 : decode cX6_solve 159 = .ok (.ifCond .le 6, 3) := by decide +kernel
theorem dX6_solve_162 : decode cX6_solve 162 = .ok (.bipush (-2), 2) := by decide +kernel
theorem dX6_solve_164 : decode cX6_solve 164 = .ok (.ireturn, 1) := by decide +kernel
theorem dX6_solve_165 : decode cX6_solve 165 = .ok (.aload_n 0, 1) := by decide +kernel
theorem dX6_solve_166 : decode cX6_solve 166 = .ok (.getfield 55, 3) := by decide +kernel
theorem dX6_solve_169 : decode cX6_solve 169 = .ok (.iload_n 2, 1) := by decide +kernel
theorem dX6_solve_170 : decode cX6_solve 170 = .ok (.lload_n 3, 1) := by decide +kernel
theorem dX6_solve_171 : decode cX6_solve 171 = .ok (.aload_n 0, 1) := by decide +kernel
theorem dX6_solve_172 : decode cX6_solve 172 = .ok (.getfield 133, 3) := by decide +kernel
theorem dX6_solve_175 : decode cX6_solve 175 = .ok (.ldiv, 1) := by decide +kernel
theorem dX6_solve_176 : decode cX6_solve 176 = .ok (.l2i, 1) := by decide +kernel
theorem dX6_solve_177 : decode cX6_solve 177 = .ok (.iastore, 1) := by decide +kernel
theorem dX6_solve_178 : decode cX6_solve 178 = .ok (.iinc 2 1, 3) := by decide +kernel
theorem dX6_solve_181 : decode cX6_solve 181 = .ok (.goto (-110), 3) := by decide +kernel
theorem dX6_solve_184 : decode cX6_solve 184 = .ok (.iconst 0, 1) := by decide +kernel
theorem dX6_solve_185 : decode cX6_solve 185 = .ok (.istore_n 2, 1) := by decide +kernel
theorem dX6_solve_186 : decode cX6_solve 186 = .ok (.iload_n 2, 1) := by decide +kernel
theorem dX6_solve_187 : decode cX6_solve 187 = .ok (.aload_n 0, 1) := by decide +kernel
theorem dX6_solve_188 : decode cX6_solve 188 = .ok (.getfield 7, 3) := by decide +kernel
theorem dX6_solve_191 : decode cX6_solve 191 = .ok (.if_icmp .ge 21, 3) := by decide +kernel
theorem dX6_solve_194 : decode cX6_solve 194 = .ok (.aload_n 0, 1) := by decide +kernel
theorem dX6_solve_195 : decode cX6_solve 195 = .ok (.getfield 17, 3) := by decide +kernel
theorem dX6_solve_198 : decode cX6_solve 198 = .ok (.iload_n 2, 1) := by decide +kernel
theorem dX6_solve_199 : decode cX6_solve 199 = .ok (.aload_n 0, 1) := by decide +kernel
theorem dX6_solve_200 : decode cX6_solve 200 = .ok (.getfield 55, 3) := by decide +kernel
theorem dX6_solve_203 : decode cX6_solve 203 = .ok (.iload_n 2, 1) := by decide +kernel
theorem dX6_solve_204 : decode cX6_solve 204 = .ok (.iaload, 1) := by decide +kernel
theorem dX6_solve_205 : decode cX6_solve 205 = .ok (.iastore, 1) := by decide +kernel
theorem dX6_solve_206 : decode cX6_solve 206 = .ok (.iinc 2 1, 3) := by decide +kernel
theorem dX6_solve_209 : decode cX6_solve 209 = .ok (.goto (-23), 3) := by decide +kernel
theorem dX6_solve_212 : decode cX6_solve 212 = .ok (.iconst 1, 1) := by decide +kernel
theorem dX6_solve_213 : decode cX6_solve 213 = .ok (.ireturn, 1) := by decide +kernel
theorem dX6_fits_0 : decode cX6_fits 0 = .ok (.iconst 0, 1) := by decide +kernel
theorem dX6_fits_1 : decode cX6_fits 1 = .ok (.istore 6, 2) := by decide +kernel
theorem dX6_fits_3 : decode cX6_fits 3 = .ok (.iload 6, 2) := by decide +kernel
theorem dX6_fits_5 : decode cX6_fits 5 = .ok (.aload_n 0, 1) := by decide +kernel
theorem dX6_fits_6 : decode cX6_fits 6 = .ok (.getfield 7, 3) := by decide +kernel
theorem dX6_fits_9 : decode cX6_fits 9 = .ok (.if_icmp .ge 93, 3) := by decide +kernel
theorem dX6_fits_12 : decode cX6_fits 12 = .ok (.aload_n 0, 1) := by decide +kernel
theorem dX6_fits_13 : decode cX6_fits 13 = .ok (.getfield 23, 3) := by decide +kernel
theorem dX6_fits_16 : decode cX6_fits 16 = .ok (.iload 6, 2) := by decide +kernel
theorem dX6_fits_18 : decode cX6_fits 18 = .ok (.baload, 1) := by decide +kernel
theorem dX6_fits_19 : decode cX6_fits 19 = .ok (.ifCond .eq 6, 3) := by decide +kernel
theorem dX6_fits_22 : decode cX6_fits 22 = .ok (.goto 74, 3) := by decide +kernel
theorem dX6_fits_25 : decode cX6_fits 25 = .ok (.iload_n 2, 1) := by decide +kernel
theorem dX6_fits_26 : decode cX6_fits 26 = .ok (.aload_n 0, 1) := by decide +kernel
theorem dX6_fits_27 : decode cX6_fits 27 = .ok (.getfield 13, 3) := by decide +kernel
theorem dX6_fits_30 : decode cX6_fits 30 = .ok (.iload_n 1, 1) := by decide +kernel
theorem dX6_fits_31 : decode cX6_fits 31 = .ok (.iload 6, 2) := by decide +kernel
theorem dX6_fits_33 : decode cX6_fits 33 = .ok (.isub, 1) := by decide +kernel
theorem dX6_fits_34 : decode cX6_fits 34 = .ok (.aload_n 0, 1) := by decide +kernel
theorem dX6_fits_35 : decode cX6_fits 35 = .ok (.getfield 7, 3) := by decide +kernel
theorem dX6_fits_38 : decode cX6_fits 38 = .ok (.iadd, 1) := by decide +kernel
theorem dX6_fits_39 : decode cX6_fits 39 = .ok (.aload_n 0, 1) := by decide +kernel
theorem dX6_fits_40 : decode cX6_fits 40 = .ok (.getfield 7, 3) := by decide +kernel
theorem dX6_fits_43 : decode cX6_fits 43 = .ok (.irem, 1) := by decide +kernel
theorem dX6_fits_44 : decode cX6_fits 44 = .ok (.iaload, 1) := by decide +kernel
theorem dX6_fits_45 : decode cX6_fits 45 = .ok (.imul, 1) := by decide +kernel
theorem dX6_fits_46 : decode cX6_fits 46 = .ok (.iload 4, 2) := by decide +kernel
theorem dX6_fits_48 : decode cX6_fits 48 = .ok (.aload_n 0, 1) := by decide +kernel
theorem dX6_fits_49 : decode cX6_fits 49 = .ok (.getfield 13, 3) := by decide +kernel
theorem dX6_fits_52 : decode cX6_fits 52 = .ok (.iload_n 3, 1) := by decide +kernel
theorem dX6_fits_53 : decode cX6_fits 53 = .ok (.iload 6, 2) := by decide +kernel
theorem dX6_fits_55 : decode cX6_fits 55 = .ok (.isub, 1) := by decide +kernel
theorem dX6_fits_56 : decode cX6_fits 56 = .ok (.aload_n 0, 1) := by decide +kernel
theorem dX6_fits_57 : decode cX6_fits 57 = .ok (.getfield 7, 3) := by decide +kernel
theorem dX6_fits_60 : decode cX6_fits 60 = .ok (.iadd, 1) := by decide +kernel
theorem dX6_fits_61 : decode cX6_fits 61 = .ok (.aload_n 0, 1) := by decide +kernel
theorem dX6_fits_62 : decode cX6_fits 62 = .ok (.getfield 7, 3) := by decide +kernel
theorem dX6_fits_65 : decode cX6_fits 65 = .ok (.irem, 1) := by decide +kernel
theorem dX6_fits_66 : decode cX6_fits 66 = .ok (.iaload, 1) := by decide +kernel
theorem dX6_fits_67 : decode cX6_fits 67 = .ok (.imul, 1) := by decide +kernel
theorem dX6_fits_68 : decode cX6_fits 68 = .ok (.iadd, 1) := by decide +kernel
theorem dX6_fits_69 : decode cX6_fits 69 = .ok (.aload_n 0, 1) := by decide +kernel
theorem dX6_fits_70 : decode cX6_fits 70 = .ok (.getfield 20, 3) := by decide +kernel
theorem dX6_fits_73 : decode cX6_fits 73 = .ok (.iload 6, 2) := by decide +kernel
theorem dX6_fits_75 : decode cX6_fits 75 = .ok (.iaload, 1) := by decide +kernel
theorem dX6_fits_76 : decode cX6_fits 76 = .ok (.isub, 1) := by decide +kernel
theorem dX6_fits_77 : decode cX6_fits 77 = .ok (.istore 7, 2) := by decide +kernel
theorem dX6_fits_79 : decode cX6_fits 79 = .ok (.iload 7, 2) := by decide +kernel
theorem dX6_fits_81 : decode cX6_fits 81 = .ok (.iload 5, 2) := by decide +kernel
theorem dX6_fits_83 : decode cX6_fits 83 = .ok (.if_icmp .gt 11, 3) := by decide +kernel
theorem dX6_fits_86 : decode cX6_fits 86 = .ok (.iload 7, 2) := by decide +kernel
theorem dX6_fits_88 : decode cX6_fits 88 = .ok (.iload 5, 2) := by decide +kernel
theorem dX6_fits_90 : decode cX6_fits 90 = .ok (.ineg, 1) := by decide +kernel
theorem dX6_fits_91 : decode cX6_fits 91 = .ok (.if_icmp .ge 5, 3) := by decide +kernel
theorem dX6_fits_94 : decode cX6_fits 94 = .ok (.iconst 0, 1) := by decide +kernel
theorem dX6_fits_95 : decode cX6_fits 95 = .ok (.ireturn, 1) := by decide +kernel
theorem dX6_fits_96 : decode cX6_fits 96 = .ok (.iinc 6 1, 3) := by decide +kernel
theorem dX6_fits_99 : decode cX6_fits 99 = .ok (.goto (-96), 3) := by decide +kernel
theorem dX6_fits_102 : decode cX6_fits 102 = .ok (.iconst 1, 1) := by decide +kernel
theorem dX6_fits_103 : decode cX6_fits 103 = .ok (.ireturn, 1) := by decide +kernel
theorem dX6_note_0 : decode cX6_note 0 = .ok (.aload_n 0, 1) := by decide +kernel
theorem dX6_note_1 : decode cX6_note 1 = .ok (.getfield 104, 3) := by decide +kernel
theorem dX6_note_4 : decode cX6_note 4 = .ok (.sipush 200, 3) := by decide +kernel
theorem dX6_note_7 : decode cX6_note 7 = .ok (.if_icmp .ge 58, 3) := by decide +kernel
theorem dX6_note_10 : decode cX6_note 10 = .ok (.aload_n 0, 1) := by decide +kernel
theorem dX6_note_11 : decode cX6_note 11 = .ok (.getfield 43, 3) := by decide +kernel
theorem dX6_note_14 : decode cX6_note 14 = .ok (.iconst 4, 1) := by decide +kernel
theorem dX6_note_15 : decode cX6_note 15 = .ok (.aload_n 0, 1) := by decide +kernel
theorem dX6_note_16 : decode cX6_note 16 = .ok (.getfield 104, 3) := by decide +kernel
theorem dX6_note_19 : decode cX6_note 19 = .ok (.imul, 1) := by decide +kernel
theorem dX6_note_20 : decode cX6_note 20 = .ok (.iload_n 1, 1) := by decide +kernel
theorem dX6_note_21 : decode cX6_note 21 = .ok (.iastore, 1) := by decide +kernel
theorem dX6_note_22 : decode cX6_note 22 = .ok (.aload_n 0, 1) := by decide +kernel
theorem dX6_note_23 : decode cX6_note 23 = .ok (.getfield 43, 3) := by decide +kernel
theorem dX6_note_26 : decode cX6_note 26 = .ok (.iconst 4, 1) := by decide +kernel
theorem dX6_note_27 : decode cX6_note 27 = .ok (.aload_n 0, 1) := by decide +kernel
theorem dX6_note_28 : decode cX6_note 28 = .ok (.getfield 104, 3) := by decide +kernel
theorem dX6_note_31 : decode cX6_note 31 = .ok (.imul, 1) := by decide +kernel
theorem dX6_note_32 : decode cX6_note 32 = .ok (.iconst 1, 1) := by decide +kernel
theorem dX6_note_33 : decode cX6_note 33 = .ok (.iadd, 1) := by decide +kernel
theorem dX6_note_34 : decode cX6_note 34 = .ok (.iload_n 2, 1) := by decide +kernel
theorem dX6_note_35 : decode cX6_note 35 = .ok (.iastore, 1) := by decide +kernel
theorem dX6_note_36 : decode cX6_note 36 = .ok (.aload_n 0, 1) := by decide +kernel
theorem dX6_note_37 : decode cX6_note 37 = .ok (.getfield 43, 3) := by decide +kernel
theorem dX6_note_40 : decode cX6_note 40 = .ok (.iconst 4, 1) := by decide +kernel
theorem dX6_note_41 : decode cX6_note 41 = .ok (.aload_n 0, 1) := by decide +kernel
theorem dX6_note_42 : decode cX6_note 42 = .ok (.getfield 104, 3) := by decide +kernel
theorem dX6_note_45 : decode cX6_note 45 = .ok (.imul, 1) := by decide +kernel
theorem dX6_note_46 : decode cX6_note 46 = .ok (.iconst 2, 1) := by decide +kernel
theorem dX6_note_47 : decode cX6_note 47 = .ok (.iadd, 1) := by decide +kernel
theorem dX6_note_48 : decode cX6_note 48 = .ok (.iload_n 3, 1) := by decide +kernel
theorem dX6_note_49 : decode cX6_note 49 = .ok (.iastore, 1) := by decide +kernel
theorem dX6_note_50 : decode cX6_note 50 = .ok (.aload_n 0, 1) := by decide +kernel
theorem dX6_note_51 : decode cX6_note 51 = .ok (.getfield 43, 3) := by decide +kernel
theorem dX6_note_54 : decode cX6_note 54 = .ok (.iconst 4, 1) := by decide +kernel
theorem dX6_note_55 : decode cX6_note 55 = .ok (.aload_n 0, 1) := by decide +kernel
theorem dX6_note_56 : decode cX6_note 56 = .ok (.getfield 104, 3) := by decide +kernel
theorem dX6_note_59 : decode cX6_note 59 = .ok (.imul, 1) := by decide +kernel
theorem dX6_note_60 : decode cX6_note 60 = .ok (.iconst 3, 1) := by decide +kernel
theorem dX6_note_61 : decode cX6_note 61 = .ok (.iadd, 1) := by decide +kernel
theorem dX6_note_62 : decode cX6_note 62 = .ok (.iload 4, 2) := by decide +kernel
theorem dX6_note_64 : decode cX6_note 64 = .ok (.iastore, 1) := by decide +kernel
theorem dX6_note_65 : decode cX6_note 65 = .ok (.aload_n 0, 1) := by decide +kernel
theorem dX6_note_66 : decode cX6_note 66 = .ok (.dup, 1) := by decide +kernel
theorem dX6_note_67 : decode cX6_note 67 = .ok (.getfield 104, 3) := by decide +kernel
theorem dX6_note_70 : decode cX6_note 70 = .ok (.iconst 1, 1) := by decide +kernel
theorem dX6_note_71 : decode cX6_note 71 = .ok (.iadd, 1) := by decide +kernel
theorem dX6_note_72 : decode cX6_note 72 = .ok (.putfield 104, 3) := by decide +kernel
theorem dX6_note_75 : decode cX6_note 75 = .ok (.return_, 1) := by decide +kernel
theorem dX6_points_0 : decode cX6_points 0 = .ok (.aload_n 0, 1) := by decide +kernel
theorem dX6_points_1 : decode cX6_points 1 = .ok (.invokevirtual 68, 3) := by decide +kernel
theorem dX6_points_4 : decode cX6_points 4 = .ok (.iload_n 1, 1) := by decide +kernel
theorem dX6_points_5 : decode cX6_points 5 = .ok (.ifCond .lt 10, 3) := by decide +kernel
theorem dX6_points_8 : decode cX6_points 8 = .ok (.iload_n 1, 1) := by decide +kernel
theorem dX6_points_9 : decode cX6_points 9 = .ok (.sipush 1000, 3) := by decide +kernel
theorem dX6_points_12 : decode cX6_points 12 = .ok (.if_icmp .le 9, 3) := by decide +kernel
theorem dX6_points_15 : decode cX6_points 15 = .ok (.aload_n 0, 1) := by decide +kernel
theorem dX6_points_16 : decode cX6_points 16 = .ok (.iconst 1, 1) := by decide +kernel
theorem dX6_points_17 : decode cX6_points 17 = .ok (.invokevirtual 79, 3) := by decide +kernel
theorem dX6_points_20 : decode cX6_points 20 = .ok (.ireturn, 1) := by decide +kernel
theorem dX6_points_21 : decode cX6_points 21 = .ok (.aload_n 0, 1) := by decide +kernel
theorem dX6_points_22 : decode cX6_points 22 = .ok (.iconst 0, 1) := by decide +kernel
theorem dX6_points_23 : decode cX6_points 23 = .ok (.putfield 104, 3) := by decide +kernel
theorem dX6_points_26 : decode cX6_points 26 = .ok (.aload_n 0, 1) := by decide +kernel
theorem dX6_points_27 : decode cX6_points 27 = .ok (.iconst 0, 1) := by decide +kernel
theorem dX6_points_28 : decode cX6_points 28 = .ok (.iconst 0, 1) := by decide +kernel
theorem dX6_points_29 : decode cX6_points 29 = .ok (.iconst 0, 1) := by decide +kernel
theorem dX6_points_30 : decode cX6_points 30 = .ok (.iconst 0, 1) := by decide +kernel
theorem dX6_points_31 : decode cX6_points 31 = .ok (.iload_n 1, 1) := by decide +kernel
theorem dX6_points_32 : decode cX6_points 32 = .ok (.invokevirtual 156, 3) := by decide +kernel
theorem dX6_points_35 : decode cX6_points 35 = .ok (.ifCond .eq 11, 3) := by decide +kernel
theorem dX6_points_38 : decode cX6_points 38 = .ok (.aload_n 0, 1) := by decide +kernel
theorem dX6_points_39 : decode cX6_points 39 = .ok (.iconst (-1), 1) := by decide +kernel
theorem dX6_points_40 : decode cX6_points 40 = .ok (.iconst 0, 1) := by decide +kernel
theorem dX6_points_41 : decode cX6_points 41 = .ok (.iconst (-1), 1) := by decide +kernel
theorem dX6_points_42 : decode cX6_points 42 = .ok (.iconst 0, 1) := by decide +kernel
theorem dX6_points_43 : decode cX6_points 43 = .ok (.invokevirtual 160, 3) := by decide +kernel
theorem dX6_points_46 : decode cX6_points 46 = .ok (.iconst 0, 1) := by decide +kernel
theorem dX6_points_47 : decode cX6_points 47 = .ok (.istore_n 2, 1) := by decide +kernel
theorem dX6_points_48 : decode cX6_points 48 = .ok (.iload_n 2, 1) := by decide +kernel
theorem dX6_points_49 : decode cX6_points 49 = .ok (.aload_n 0, 1) := by decide +kernel
theorem dX6_points_50 : decode cX6_points 50 = .ok (.getfield 7, 3) := by decide +kernel
theorem dX6_points_53 : decode cX6_points 53 = .ok (.if_icmp .ge 43, 3) := by decide +kernel
theorem dX6_points_56 : decode cX6_points 56 = .ok (.iconst 1, 1) := by decide +kernel
theorem dX6_points_57 : decode cX6_points 57 = .ok (.istore_n 3, 1) := by decide +kernel
theorem dX6_points_58 : decode cX6_points 58 = .ok (.iload_n 3, 1) := by decide +kernel
theorem dX6_points_59 : decode cX6_points 59 = .ok (.bipush 10, 2) := by decide +kernel
theorem dX6_points_61 : decode cX6_points 61 = .ok (.if_icmp .ge 29, 3) := by decide +kernel
theorem dX6_points_64 : decode cX6_points 64 = .ok (.aload_n 0, 1) := by decide +kernel
theorem dX6_points_65 : decode cX6_points 65 = .ok (.iload_n 2, 1) := by decide +kernel
theorem dX6_points_66 : decode cX6_points 66 = .ok (.iload_n 3, 1) := by decide +kernel
theorem dX6_points_67 : decode cX6_points 67 = .ok (.iconst 0, 1) := by decide +kernel
theorem dX6_points_68 : decode cX6_points 68 = .ok (.iconst 0, 1) := by decide +kernel
theorem dX6_points_69 : decode cX6_points 69 = .ok (.iload_n 1, 1) := by decide +kernel
theorem dX6_points_70 : decode cX6_points 70 = .ok (.invokevirtual 156, 3) := by decide +kernel
theorem dX6_points_73 : decode cX6_points 73 = .ok (.ifCond .eq 11, 3) := by decide +kernel
theorem dX6_points_76 : decode cX6_points 76 = .ok (.aload_n 0, 1) := by decide +kernel
theorem dX6_points_77 : decode cX6_points 77 = .ok (.iload_n 2, 1) := by decide +kernel
theorem dX6_points_78 : decode cX6_points 78 = .ok (.iload_n 3, 1) := by decide +kernel
theorem dX6_points_79 : decode cX6_points 79 = .ok (.iconst (-1), 1) := by decide +kernel
theorem dX6_points_80 : decode cX6_points 80 = .ok (.iconst 0, 1) := by decide +kernel
theorem dX6_points_81 : decode cX6_points 81 = .ok (.invokevirtual 160, 3) := by decide +kernel
theorem dX6_points_84 : decode cX6_points 84 = .ok (.iinc 3 1, 3) := by decide +kernel
theorem dX6_points_87 : decode cX6_points 87 = .ok (.goto (-29), 3) := by decide +kernel
theorem dX6_points_90 : decode cX6_points 90 = .ok (.iinc 2 1, 3) := by decide +kernel
theorem dX6_points_93 : decode cX6_points 93 = .ok (.goto (-45), 3) := by decide +kernel
theorem dX6_points_96 : decode cX6_points 96 = .ok (.iconst 0, 1) := by decide +kernel
theorem dX6_points_97 : decode cX6_points 97 = .ok (.istore_n 2, 1) := by decide +kernel
theorem dX6_points_98 : decode cX6_points 98 = .ok (.iload_n 2, 1) := by decide +kernel
theorem dX6_points_99 : decode cX6_points 99 = .ok (.aload_n 0, 1) := by decide +kernel
theorem dX6_points_100 : decode cX6_points 100 = .ok (.getfield 7, 3) := by decide +kernel
theorem dX6_points_103 : decode cX6_points 103 = .ok (.if_icmp .ge 83, 3) := by decide +kernel
theorem dX6_points_106 : decode cX6_points 106 = .ok (.iconst 1, 1) := by decide +kernel
theorem dX6_points_107 : decode cX6_points 107 = .ok (.istore_n 3, 1) := by decide +kernel
theorem dX6_points_108 : decode cX6_points 108 = .ok (.iload_n 3, 1) := by decide +kernel
theorem dX6_points_109 : decode cX6_points 109 = .ok (.bipush 10, 2) := by decide +kernel
theorem dX6_points_111 : decode cX6_points 111 = .ok (.if_icmp .ge 69, 3) := by decide +kernel
theorem dX6_points_114 : decode cX6_points 114 = .ok (.iload_n 2, 1) := by decide +kernel
theorem dX6_points_115 : decode cX6_points 115 = .ok (.iconst 1, 1) := by decide +kernel
theorem dX6_points_116 : decode cX6_points 116 = .ok (.iadd, 1) := by decide +kernel
theorem dX6_points_117 : decode cX6_points 117 = .ok (.istore 4, 2) := by decide +kernel
theorem dX6_points_119 : decode cX6_points 119 = .ok (.iload 4, 2) := by decide +kernel
theorem dX6_points_121 : decode cX6_points 121 = .ok (.aload_n 0, 1) := by decide +kernel
theorem dX6_points_122 : decode cX6_points 122 = .ok (.getfield 7, 3) := by decide +kernel
theorem dX6_points_125 : decode cX6_points 125 = .ok (.if_icmp .ge 49, 3) := by decide +kernel
theorem dX6_points_128 : decode cX6_points 128 = .ok (.iconst 1, 1) := by decide +kernel
theorem dX6_points_129 : decode cX6_points 129 = .ok (.istore 5, 2) := by decide +kernel
theorem dX6_points_131 : decode cX6_points 131 = .ok (.iload 5, 2) := by decide +kernel
theorem dX6_points_133 : decode cX6_points 133 = .ok (.bipush 10, 2) := by decide +kernel
theorem dX6_points_135 : decode cX6_points 135 = .ok (.if_icmp .ge 33, 3) := by decide +kernel
theorem dX6_points_138 : decode cX6_points 138 = .ok (.aload_n 0, 1) := by decide +kernel
theorem dX6_points_139 : decode cX6_points 139 = .ok (.iload_n 2, 1) := by decide +kernel
theorem dX6_points_140 : decode cX6_points 140 = .ok (.iload_n 3, 1) := by decide +kernel
theorem dX6_points_141 : decode cX6_points 141 = .ok (.iload 4, 2) := by decide +kernel
theorem dX6_points_143 : decode cX6_points 143 = .ok (.iload 5, 2) := by decide +kernel
theorem dX6_points_145 : decode cX6_points 145 = .ok (.iload_n 1, 1) := by decide +kernel
theorem dX6_points_146 : decode cX6_points 146 = .ok (.invokevirtual 156, 3) := by decide +kernel
theorem dX6_points_149 : decode cX6_points 149 = .ok (.ifCond .eq 13, 3) := by decide +kernel
theorem dX6_points_152 : decode cX6_points 152 = .ok (.aload_n 0, 1) := by decide +kernel
theorem dX6_points_153 : decode cX6_points 153 = .ok (.iload_n 2, 1) := by decide +kernel
theorem dX6_points_154 : decode cX6_points 154 = .ok (.iload_n 3, 1) := by decide +kernel
theorem dX6_points_155 : decode cX6_points 155 = .ok (.iload 4, 2) := by decide +kernel
theorem dX6_points_157 : decode cX6_points 157 = .ok (.iload 5, 2) := by decide +kernel
theorem dX6_points_159 : decode cX6_points 159 = .ok (.invokevirtual 160, 3) := by decide +kernel
theorem dX6_points_162 : decode cX6_points 162 = .ok (.iinc 5 1, 3) := by decide +kernel
theorem dX6_points_165 : decode cX6_points 165 = .ok (.goto (-34), 3) := by decide +kernel
theorem dX6_points_168 : decode cX6_points 168 = .ok (.iinc 4 1, 3) := by decide +kernel
theorem dX6_points_171 : decode cX6_points 171 = .ok (.goto (-52), 3) := by decide +kernel
theorem dX6_points_174 : decode cX6_points 174 = .ok (.iinc 3 1, 3) := by decide +kernel
theorem dX6_points_177 : decode cX6_points 177 = .ok (.goto (-69), 3) := by decide +kernel
theorem dX6_points_180 : decode cX6_points 180 = .ok (.iinc 2 1, 3) := by decide +kernel
theorem dX6_points_183 : decode cX6_points 183 = .ok (.goto (-85), 3) := by decide +kernel
theorem dX6_points_186 : decode cX6_points 186 = .ok (.aload_n 0, 1) := by decide +kernel
theorem dX6_points_187 : decode cX6_points 187 = .ok (.getfield 104, 3) := by decide +kernel
theorem dX6_points_190 : decode cX6_points 190 = .ok (.ireturn, 1) := by decide +kernel
theorem dX6_point_0 : decode cX6_point 0 = .ok (.aload_n 0, 1) := by decide +kernel
theorem dX6_point_1 : decode cX6_point 1 = .ok (.invokevirtual 68, 3) := by decide +kernel
theorem dX6_point_4 : decode cX6_point 4 = .ok (.iload_n 1, 1) := by decide +kernel
theorem dX6_point_5 : decode cX6_point 5 = .ok (.ifCond .lt 40, 3) := by decide +kernel
theorem dX6_point_8 : decode cX6_point 8 = .ok (.iload_n 1, 1) := by decide +kernel
theorem dX6_point_9 : decode cX6_point 9 = .ok (.aload_n 0, 1) := by decide +kernel
theorem dX6_point_10 : decode cX6_point 10 = .ok (.getfield 104, 3) := by decide +kernel
theorem dX6_point_13 : decode cX6_point 13 = .ok (.if_icmp .ge 32, 3) := by decide +kernel
theorem dX6_point_16 : decode cX6_point 16 = .ok (.iload_n 1, 1) := by decide +kernel
theorem dX6_point_17 : decode cX6_point 17 = .ok (.sipush 200, 3) := by decide +kernel
theorem dX6_point_20 : decode cX6_point 20 = .ok (.if_icmp .ge 25, 3) := by decide +kernel
theorem dX6_point_23 : decode cX6_point 23 = .ok (.iload_n 2, 1) := by decide +kernel
theorem dX6_point_24 : decode cX6_point 24 = .ok (.ifCond .lt 21, 3) := by decide +kernel
theorem dX6_point_27 : decode cX6_point 27 = .ok (.iload_n 2, 1) := by decide +kernel
theorem dX6_point_28 : decode cX6_point 28 = .ok (.iconst 4, 1) := by decide +kernel
theorem dX6_point_29 : decode cX6_point 29 = .ok (.if_icmp .ge 16, 3) := by decide +kernel
theorem dX6_point_32 : decode cX6_point 32 = .ok (.aload_n 0, 1) := by decide +kernel
theorem dX6_point_33 : decode cX6_point 33 = .ok (.getfield 43, 3) := by decide +kernel
theorem dX6_point_36 : decode cX6_point 36 = .ok (.iconst 4, 1) := by decide +kernel
theorem dX6_point_37 : decode cX6_point 37 = .ok (.iload_n 1, 1) := by decide +kernel
theorem dX6_point_38 : decode cX6_point 38 = .ok (.imul, 1) := by decide +kernel
theorem dX6_point_39 : decode cX6_point 39 = .ok (.iload_n 2, 1) := by decide +kernel
theorem dX6_point_40 : decode cX6_point 40 = .ok (.iadd, 1) := by decide +kernel
theorem dX6_point_41 : decode cX6_point 41 = .ok (.iaload, 1) := by decide +kernel
theorem dX6_point_42 : decode cX6_point 42 = .ok (.goto 4, 3) := by decide +kernel
theorem dX6_point_45 : decode cX6_point 45 = .ok (.iconst (-1), 1) := by decide +kernel
theorem dX6_point_46 : decode cX6_point 46 = .ok (.ireturn, 1) := by decide +kernel
theorem dX6_table_0 : decode cX6_table 0 = .ok (.aload_n 0, 1) := by decide +kernel
theorem dX6_table_1 : decode cX6_table 1 = .ok (.invokevirtual 68, 3) := by decide +kernel
theorem dX6_table_4 : decode cX6_table 4 = .ok (.iload_n 1, 1) := by decide +kernel
theorem dX6_table_5 : decode cX6_table 5 = .ok (.iconst 1, 1) := by decide +kernel
theorem dX6_table_6 : decode cX6_table 6 = .ok (.if_icmp .ne 42, 3) := by decide +kernel
theorem dX6_table_9 : decode cX6_table 9 = .ok (.iload_n 2, 1) := by decide +kernel
theorem dX6_table_10 : decode cX6_table 10 = .ok (.iconst 3, 1) := by decide +kernel
theorem dX6_table_11 : decode cX6_table 11 = .ok (.if_icmp .eq 33, 3) := by decide +kernel
theorem dX6_table_14 : decode cX6_table 14 = .ok (.iload_n 2, 1) := by decide +kernel
theorem dX6_table_15 : decode cX6_table 15 = .ok (.bipush 7, 2) := by decide +kernel
theorem dX6_table_17 : decode cX6_table 17 = .ok (.if_icmp .eq 27, 3) := by decide +kernel
theorem dX6_table_20 : decode cX6_table 20 = .ok (.iload_n 2, 1) := by decide +kernel
theorem dX6_table_21 : decode cX6_table 21 = .ok (.bipush 11, 2) := by decide +kernel
theorem dX6_table_23 : decode cX6_table 23 = .ok (.if_icmp .eq 21, 3) := by decide +kernel
theorem dX6_table_26 : decode cX6_table 26 = .ok (.iload_n 2, 1) := by decide +kernel
theorem dX6_table_27 : decode cX6_table 27 = .ok (.bipush 19, 2) := by decide +kernel
theorem dX6_table_29 : decode cX6_table 29 = .ok (.if_icmp .eq 15, 3) := by decide +kernel
theorem dX6_table_32 : decode cX6_table 32 = .ok (.iload_n 2, 1) := by decide +kernel
theorem dX6_table_33 : decode cX6_table 33 = .ok (.bipush 23, 2) := by decide +kernel
theorem dX6_table_35 : decode cX6_table 35 = .ok (.if_icmp .eq 9, 3) := by decide +kernel
theorem dX6_table_38 : decode cX6_table 38 = .ok (.iload_n 2, 1) := by decide +kernel
theorem dX6_table_39 : decode cX6_table 39 = .ok (.bipush 31, 2) := by decide +kernel
theorem dX6_table_41 : decode cX6_table 41 = .ok (.if_icmp .ne 7, 3) := by decide +kernel
theorem dX6_table_44 : decode cX6_table 44 = .ok (.iconst 1, 1) := by decide +kernel
theorem dX6_table_45 : decode cX6_table 45 = .ok (.goto 4, 3) := by decide +kernel
theorem dX6_table_48 : decode cX6_table 48 = .ok (.iconst 0, 1) := by decide +kernel
theorem dX6_table_49 : decode cX6_table 49 = .ok (.istore_n 3, 1) := by decide +kernel
theorem dX6_table_50 : decode cX6_table 50 = .ok (.iload_n 3, 1) := by decide +kernel
theorem dX6_table_51 : decode cX6_table 51 = .ok (.ifCond .ne 22, 3) := by decide +kernel
theorem dX6_table_54 : decode cX6_table 54 = .ok (.iload_n 1, 1) := by decide +kernel
theorem dX6_table_55 : decode cX6_table 55 = .ok (.ifCond .ne 12, 3) := by decide +kernel
theorem dX6_table_58 : decode cX6_table 58 = .ok (.iload_n 2, 1) := by decide +kernel
theorem dX6_table_59 : decode cX6_table 59 = .ok (.ifCond .lt 8, 3) := by decide +kernel
theorem dX6_table_62 : decode cX6_table 62 = .ok (.iload_n 2, 1) := by decide +kernel
theorem dX6_table_63 : decode cX6_table 63 = .ok (.iconst 5, 1) := by decide +kernel
theorem dX6_table_64 : decode cX6_table 64 = .ok (.if_icmp .le 9, 3) := by decide +kernel
theorem dX6_table_67 : decode cX6_table 67 = .ok (.aload_n 0, 1) := by decide +kernel
theorem dX6_table_68 : decode cX6_table 68 = .ok (.iconst 1, 1) := by decide +kernel
theorem dX6_table_69 : decode cX6_table 69 = .ok (.invokevirtual 79, 3) := by decide +kernel
theorem dX6_table_72 : decode cX6_table 72 = .ok (.ireturn, 1) := by decide +kernel
theorem dX6_table_73 : decode cX6_table 73 = .ok (.aload_n 0, 1) := by decide +kernel
theorem dX6_table_74 : decode cX6_table 74 = .ok (.iload_n 1, 1) := by decide +kernel
theorem dX6_table_75 : decode cX6_table 75 = .ok (.ifCond .ne 9, 3) := by decide +kernel
theorem dX6_table_78 : decode cX6_table 78 = .ok (.iconst 1, 1) := by decide +kernel
theorem dX6_table_79 : decode cX6_table 79 = .ok (.iload_n 2, 1) := by decide +kernel
theorem dX6_table_80 : decode cX6_table 80 = .ok (.ishl, 1) := by decide +kernel
theorem dX6_table_81 : decode cX6_table 81 = .ok (.goto 6, 3) := by decide +kernel
theorem dX6_table_84 : decode cX6_table 84 = .ok (.iload_n 2, 1) := by decide +kernel
theorem dX6_table_85 : decode cX6_table 85 = .ok (.iconst 1, 1) := by decide +kernel
theorem dX6_table_86 : decode cX6_table 86 = .ok (.iadd, 1) := by decide +kernel
theorem dX6_table_87 : decode cX6_table 87 = .ok (.putfield 37, 3) := by decide +kernel
theorem dX6_table_90 : decode cX6_table 90 = .ok (.iconst 0, 1) := by decide +kernel
theorem dX6_table_91 : decode cX6_table 91 = .ok (.istore 4, 2) := by decide +kernel
theorem dX6_table_93 : decode cX6_table 93 = .ok (.iload 4, 2) := by decide +kernel
theorem dX6_table_95 : decode cX6_table 95 = .ok (.aload_n 0, 1) := by decide +kernel
theorem dX6_table_96 : decode cX6_table 96 = .ok (.getfield 37, 3) := by decide +kernel
theorem dX6_table_99 : decode cX6_table 99 = .ok (.if_icmp .ge 111, 3) := by decide +kernel
theorem dX6_table_102 : decode cX6_table 102 = .ok (.iconst 0, 1) := by decide +kernel
theorem dX6_table_103 : decode cX6_table 103 = .ok (.istore 5, 2) := by decide +kernel
theorem dX6_table_105 : decode cX6_table 105 = .ok (.iload 5, 2) := by decide +kernel
theorem dX6_table_107 : decode cX6_table 107 = .ok (.aload_n 0, 1) := by decide +kernel
theorem dX6_table_108 : decode cX6_table 108 = .ok (.getfield 37, 3) := by decide +kernel
theorem dX6_table_111 : decode cX6_table 111 = .ok (.if_icmp .ge 93, 3) := by decide +kernel
theorem dX6_table_114 : decode cX6_table 114 = .ok (.iload_n 1, 1) := by decide +kernel
theorem dX6_table_115 : decode cX6_table 115 = .ok (.ifCond .ne 24, 3) := by decide +kernel
theorem dX6_table_118 : decode cX6_table 118 = .ok (.iload 4, 2) := by decide +kernel
theorem dX6_table_120 : decode cX6_table 120 = .ok (.iload 5, 2) := by decide +kernel
theorem dX6_table_122 : decode cX6_table 122 = .ok (.iand, 1) := by decide +kernel
theorem dX6_table_123 : decode cX6_table 123 = .ok (.invokestatic 124, 3) := by decide +kernel
theorem dX6_table_126 : decode cX6_table 126 = .ok (.iconst 2, 1) := by decide +kernel
theorem dX6_table_127 : decode cX6_table 127 = .ok (.irem, 1) := by decide +kernel
theorem dX6_table_128 : decode cX6_table 128 = .ok (.ifCond .ne 7, 3) := by decide +kernel
theorem dX6_table_131 : decode cX6_table 131 = .ok (.iconst 1, 1) := by decide +kernel
theorem dX6_table_132 : decode cX6_table 132 = .ok (.goto 41, 3) := by decide +kernel
theorem dX6_table_135 : decode cX6_table 135 = .ok (.iconst 0, 1) := by decide +kernel
theorem dX6_table_136 : decode cX6_table 136 = .ok (.goto 37, 3) := by decide +kernel
theorem dX6_table_139 : decode cX6_table 139 = .ok (.iload 4, 2) := by decide +kernel
theorem dX6_table_141 : decode cX6_table 141 = .ok (.ifCond .eq 27, 3) := by decide +kernel
theorem dX6_table_144 : decode cX6_table 144 = .ok (.iload 5, 2) := by decide +kernel
theorem dX6_table_146 : decode cX6_table 146 = .ok (.ifCond .eq 22, 3) := by decide +kernel
theorem dX6_table_149 : decode cX6_table 149 = .ok (.iload 4, 2) := by decide +kernel
theorem dX6_table_151 : decode cX6_table 151 = .ok (.iload 5, 2) := by decide +kernel
theorem dX6_table_153 : decode cX6_table 153 = .ok (.if_icmp .eq 19, 3) := by decide +kernel
theorem dX6_table_156 : decode cX6_table 156 = .ok (.iload 5, 2) := by decide +kernel
theorem dX6_table_158 : decode cX6_table 158 = .ok (.iload 4, 2) := by decide +kernel
theorem dX6_table_160 : decode cX6_table 160 = .ok (.isub, 1) := by decide +kernel
theorem dX6_table_161 : decode cX6_table 161 = .ok (.iload_n 2, 1) := by decide +kernel
theorem dX6_table_162 : decode cX6_table 162 = .ok (.invokestatic 117, 3) := by decide +kernel
theorem dX6_table_165 : decode cX6_table 165 = .ok (.ifCond .eq 7, 3) := by decide +kernel
theorem dX6_table_168 : decode cX6_table 168 = .ok (.iconst 1, 1) := by decide +kernel
theorem dX6_table_169 : decode cX6_table 169 = .ok (.goto 4, 3) := by decide +kernel
theorem dX6_table_172 : decode cX6_table 172 = .ok (.iconst 0, 1) := by decide +kernel
theorem dX6_table_173 : decode cX6_table 173 = .ok (.istore 6, 2) := by decide +kernel
theorem dX6_table_175 : decode cX6_table 175 = .ok (.aload_n 0, 1) := by decide +kernel
theorem dX6_table_176 : decode cX6_table 176 = .ok (.getfield 40, 3) := by decide +kernel
theorem dX6_table_179 : decode cX6_table 179 = .ok (.bipush 32, 2) := by decide +kernel
theorem dX6_table_181 : decode cX6_table 181 = .ok (.iload 4, 2) := by decide +kernel
theorem dX6_table_183 : decode cX6_table 183 = .ok (.imul, 1) := by decide +kernel
theorem dX6_table_184 : decode cX6_table 184 = .ok (.iload 5, 2) := by decide +kernel
theorem dX6_table_186 : decode cX6_table 186 = .ok (.iadd, 1) := by decide +kernel
theorem dX6_table_187 : decode cX6_table 187 = .ok (.iload 6, 2) := by decide +kernel
theorem dX6_table_189 : decode cX6_table 189 = .ok (.ifCond .eq 7, 3) := by decide +kernel
theorem dX6_table_192 : decode cX6_table 192 = .ok (.iconst 1, 1) := by decide +kernel
theorem dX6_table_193 : decode cX6_table 193 = .ok (.goto 4, 3) := by decide +kernel
theorem dX6_table_196 : decode cX6_table 196 = .ok (.iconst (-1), 1) := by decide +kernel
theorem dX6_table_197 : decode cX6_table 197 = .ok (.iastore, 1) := by decide +kernel
theorem dX6_table_198 : decode cX6_table 198 = .ok (.iinc 5 1, 3) := by decide +kernel
theorem dX6_table_201 : decode cX6_table 201 = .ok (.goto (-96), 3) := by decide +kernel
theorem dX6_table_204 : decode cX6_table 204 = .ok (.iinc 4 1, 3) := by decide +kernel
theorem dX6_table_207 : decode cX6_table 207 = .ok (.goto (-114), 3) := by decide +kernel
theorem dX6_table_210 : decode cX6_table 210 = .ok (.aload_n 0, 1) := by decide +kernel
theorem dX6_table_211 : decode cX6_table 211 = .ok (.getfield 37, 3) := by decide +kernel
theorem dX6_table_214 : decode cX6_table 214 = .ok (.ireturn, 1) := by decide +kernel
theorem dX6_twice_0 : decode cX6_twice 0 = .ok (.aload_n 0, 1) := by decide +kernel
theorem dX6_twice_1 : decode cX6_twice 1 = .ok (.invokevirtual 68, 3) := by decide +kernel
theorem dX6_twice_4 : decode cX6_twice 4 = .ok (.aload_n 0, 1) := by decide +kernel
theorem dX6_twice_5 : decode cX6_twice 5 = .ok (.getfield 37, 3) := by decide +kernel
theorem dX6_twice_8 : decode cX6_twice 8 = .ok (.iconst (-1), 1) := by decide +kernel
theorem dX6_twice_9 : decode cX6_twice 9 = .ok (.if_icmp .ne 9, 3) := by decide +kernel
theorem dX6_twice_12 : decode cX6_twice 12 = .ok (.aload_n 0, 1) := by decide +kernel
theorem dX6_twice_13 : decode cX6_twice 13 = .ok (.iconst 2, 1) := by decide +kernel
theorem dX6_twice_14 : decode cX6_twice 14 = .ok (.invokevirtual 79, 3) := by decide +kernel
theorem dX6_twice_17 : decode cX6_twice 17 = .ok (.ireturn, 1) := by decide +kernel
theorem dX6_twice_18 : decode cX6_twice 18 = .ok (.iconst 2, 1) := by decide +kernel
theorem dX6_twice_19 : decode cX6_twice 19 = .ok (.aload_n 0, 1) := by decide +kernel
theorem dX6_twice_20 : decode cX6_twice 20 = .ok (.getfield 37, 3) := by decide +kernel
theorem dX6_twice_23 : decode cX6_twice 23 = .ok (.imul, 1) := by decide +kernel
theorem dX6_twice_24 : decode cX6_twice 24 = .ok (.bipush 32, 2) := by decide +kernel
theorem dX6_twice_26 : decode cX6_twice 26 = .ok (.if_icmp .le 9, 3) := by decide +kernel
theorem dX6_twice_29 : decode cX6_twice 29 = .ok (.aload_n 0, 1) := by decide +kernel
theorem dX6_twice_30 : decode cX6_twice 30 = .ok (.iconst 3, 1) := by decide +kernel
theorem dX6_twice_31 : decode cX6_twice 31 = .ok (.invokevirtual 79, 3) := by decide +kernel
theorem dX6_twice_34 : decode cX6_twice 34 = .ok (.ireturn, 1) := by decide +kernel
theorem dX6_twice_35 : decode cX6_twice 35 = .ok (.aload_n 0, 1) := by decide +kernel
theorem dX6_twice_36 : decode cX6_twice 36 = .ok (.getfield 37, 3) := by decide +kernel
theorem dX6_twice_39 : decode cX6_twice 39 = .ok (.istore_n 1, 1) := by decide +kernel
theorem dX6_twice_40 : decode cX6_twice 40 = .ok (.iconst 0, 1) := by decide +kernel
theorem dX6_twice_41 : decode cX6_twice 41 = .ok (.istore_n 2, 1) := by decide +kernel
theorem dX6_twice_42 : decode cX6_twice 42 = .ok (.iload_n 2, 1) := by decide +kernel
theorem dX6_twice_43 : decode cX6_twice 43 = .ok (.iload_n 1, 1) := by decide +kernel
theorem dX6_twice_44 : decode cX6_twice 44 = .ok (.if_icmp .ge 83, 3) := by decide +kernel
theorem dX6_twice_47 : decode cX6_twice 47 = .ok (.iconst 0, 1) := by decide +kernel
theorem dX6_twice_48 : decode cX6_twice 48 = .ok (.istore_n 3, 1) := by decide +kernel
theorem dX6_twice_49 : decode cX6_twice 49 = .ok (.iload_n 3, 1) := by decide +kernel
theorem dX6_twice_50 : decode cX6_twice 50 = .ok (.iload_n 1, 1) := by decide +kernel
theorem dX6_twice_51 : decode cX6_twice 51 = .ok (.if_icmp .ge 70, 3) := by decide +kernel
theorem dX6_twice_54 : decode cX6_twice 54 = .ok (.aload_n 0, 1) := by decide +kernel
theorem dX6_twice_55 : decode cX6_twice 55 = .ok (.getfield 40, 3) := by decide +kernel
theorem dX6_twice_58 : decode cX6_twice 58 = .ok (.bipush 32, 2) := by decide +kernel
theorem dX6_twice_60 : decode cX6_twice 60 = .ok (.iload_n 2, 1) := by decide +kernel
theorem dX6_twice_61 : decode cX6_twice 61 = .ok (.imul, 1) := by decide +kernel
theorem dX6_twice_62 : decode cX6_twice 62 = .ok (.iload_n 3, 1) := by decide +kernel
theorem dX6_twice_63 : decode cX6_twice 63 = .ok (.iadd, 1) := by decide +kernel
theorem dX6_twice_64 : decode cX6_twice 64 = .ok (.iaload, 1) := by decide +kernel
theorem dX6_twice_65 : decode cX6_twice 65 = .ok (.istore 4, 2) := by decide +kernel
theorem dX6_twice_67 : decode cX6_twice 67 = .ok (.aload_n 0, 1) := by decide +kernel
theorem dX6_twice_68 : decode cX6_twice 68 = .ok (.getfield 40, 3) := by decide +kernel
theorem dX6_twice_71 : decode cX6_twice 71 = .ok (.bipush 32, 2) := by decide +kernel
theorem dX6_twice_73 : decode cX6_twice 73 = .ok (.iload_n 2, 1) := by decide +kernel
theorem dX6_twice_74 : decode cX6_twice 74 = .ok (.imul, 1) := by decide +kernel
theorem dX6_twice_75 : decode cX6_twice 75 = .ok (.iload_n 3, 1) := by decide +kernel
theorem dX6_twice_76 : decode cX6_twice 76 = .ok (.iadd, 1) := by decide +kernel
theorem dX6_twice_77 : decode cX6_twice 77 = .ok (.iload_n 1, 1) := by decide +kernel
theorem dX6_twice_78 : decode cX6_twice 78 = .ok (.iadd, 1) := by decide +kernel
theorem dX6_twice_79 : decode cX6_twice 79 = .ok (.iload 4, 2) := by decide +kernel
theorem dX6_twice_81 : decode cX6_twice 81 = .ok (.iastore, 1) := by decide +kernel
theorem dX6_twice_82 : decode cX6_twice 82 = .ok (.aload_n 0, 1) := by decide +kernel
theorem dX6_twice_83 : decode cX6_twice 83 = .ok (.getfield 40, 3) := by decide +kernel
theorem dX6_twice_86 : decode cX6_twice 86 = .ok (.bipush 32, 2) := by decide +kernel
theorem dX6_twice_88 : decode cX6_twice 88 = .ok (.iload_n 2, 1) := by decide +kernel
theorem dX6_twice_89 : decode cX6_twice 89 = .ok (.iload_n 1, 1) := by decide +kernel
theorem dX6_twice_90 : decode cX6_twice 90 = .ok (.iadd, 1) := by decide +kernel
theorem dX6_twice_91 : decode cX6_twice 91 = .ok (.imul, 1) := by decide +kernel
theorem dX6_twice_92 : decode cX6_twice 92 = .ok (.iload_n 3, 1) := by decide +kernel
theorem dX6_twice_93 : decode cX6_twice 93 = .ok (.iadd, 1) := by decide +kernel
theorem dX6_twice_94 : decode cX6_twice 94 = .ok (.iload 4, 2) := by decide +kernel
theorem dX6_twice_96 : decode cX6_twice 96 = .ok (.iastore, 1) := by decide +kernel
theorem dX6_twice_97 : decode cX6_twice 97 = .ok (.aload_n 0, 1) := by decide +kernel
theorem dX6_twice_98 : decode cX6_twice 98 = .ok (.getfield 40, 3) := by decide +kernel
theorem dX6_twice_101 : decode cX6_twice 101 = .ok (.bipush 32, 2) := by decide +kernel
theorem dX6_twice_103 : decode cX6_twice 103 = .ok (.iload_n 2, 1) := by decide +kernel
theorem dX6_twice_104 : decode cX6_twice 104 = .ok (.iload_n 1, 1) := by decide +kernel
theorem dX6_twice_105 : decode cX6_twice 105 = .ok (.iadd, 1) := by decide +kernel
theorem dX6_twice_106 : decode cX6_twice 106 = .ok (.imul, 1) := by decide +kernel
theorem dX6_twice_107 : decode cX6_twice 107 = .ok (.iload_n 3, 1) := by decide +kernel
theorem dX6_twice_108 : decode cX6_twice 108 = .ok (.iadd, 1) := by decide +kernel
theorem dX6_twice_109 : decode cX6_twice 109 = .ok (.iload_n 1, 1) := by decide +kernel
theorem dX6_twice_110 : decode cX6_twice 110 = .ok (.iadd, 1) := by decide +kernel
theorem dX6_twice_111 : decode cX6_twice 111 = .ok (.iload 4, 2) := by decide +kernel
theorem dX6_twice_113 : decode cX6_twice 113 = .ok (.ineg, 1) := by decide +kernel
theorem dX6_twice_114 : decode cX6_twice 114 = .ok (.iastore, 1) := by decide +kernel
theorem dX6_twice_115 : decode cX6_twice 115 = .ok (.iinc 3 1, 3) := by decide +kernel
theorem dX6_twice_118 : decode cX6_twice 118 = .ok (.goto (-69), 3) := by decide +kernel
theorem dX6_twice_121 : decode cX6_twice 121 = .ok (.iinc 2 1, 3) := by decide +kernel
theorem dX6_twice_124 : decode cX6_twice 124 = .ok (.goto (-82), 3) := by decide +kernel
theorem dX6_twice_127 : decode cX6_twice 127 = .ok (.aload_n 0, 1) := by decide +kernel
theorem dX6_twice_128 : decode cX6_twice 128 = .ok (.iconst 2, 1) := by decide +kernel
theorem dX6_twice_129 : decode cX6_twice 129 = .ok (.iload_n 1, 1) := by decide +kernel
theorem dX6_twice_130 : decode cX6_twice 130 = .ok (.imul, 1) := by decide +kernel
theorem dX6_twice_131 : decode cX6_twice 131 = .ok (.putfield 37, 3) := by decide +kernel
theorem dX6_twice_134 : decode cX6_twice 134 = .ok (.aload_n 0, 1) := by decide +kernel
theorem dX6_twice_135 : decode cX6_twice 135 = .ok (.getfield 37, 3) := by decide +kernel
theorem dX6_twice_138 : decode cX6_twice 138 = .ok (.ireturn, 1) := by decide +kernel
theorem dX6_isRow_0 : decode cX6_isRow 0 = .ok (.iload_n 1, 1) := by decide +kernel
theorem dX6_isRow_1 : decode cX6_isRow 1 = .ok (.ifCond .lt 15, 3) := by decide +kernel
theorem dX6_isRow_4 : decode cX6_isRow 4 = .ok (.iload_n 1, 1) := by decide +kernel
theorem dX6_isRow_5 : decode cX6_isRow 5 = .ok (.aload_n 0, 1) := by decide +kernel
theorem dX6_isRow_6 : decode cX6_isRow 6 = .ok (.getfield 37, 3) := by decide +kernel
theorem dX6_isRow_9 : decode cX6_isRow 9 = .ok (.if_icmp .ge 7, 3) := by decide +kernel
theorem dX6_isRow_12 : decode cX6_isRow 12 = .ok (.iconst 1, 1) := by decide +kernel
theorem dX6_isRow_13 : decode cX6_isRow 13 = .ok (.goto 4, 3) := by decide +kernel
theorem dX6_isRow_16 : decode cX6_isRow 16 = .ok (.iconst 0, 1) := by decide +kernel
theorem dX6_isRow_17 : decode cX6_isRow 17 = .ok (.ireturn, 1) := by decide +kernel
theorem dX6_swap_0 : decode cX6_swap 0 = .ok (.aload_n 0, 1) := by decide +kernel
theorem dX6_swap_1 : decode cX6_swap 1 = .ok (.invokevirtual 68, 3) := by decide +kernel
theorem dX6_swap_4 : decode cX6_swap 4 = .ok (.aload_n 0, 1) := by decide +kernel
theorem dX6_swap_5 : decode cX6_swap 5 = .ok (.getfield 37, 3) := by decide +kernel
theorem dX6_swap_8 : decode cX6_swap 8 = .ok (.iconst (-1), 1) := by decide +kernel
theorem dX6_swap_9 : decode cX6_swap 9 = .ok (.if_icmp .ne 9, 3) := by decide +kernel
theorem dX6_swap_12 : decode cX6_swap 12 = .ok (.aload_n 0, 1) := by decide +kernel
theorem dX6_swap_13 : decode cX6_swap 13 = .ok (.iconst 2, 1) := by decide +kernel
theorem dX6_swap_14 : decode cX6_swap 14 = .ok (.invokevirtual 71, 3) := by decide +kernel
theorem dX6_swap_17 : decode cX6_swap 17 = .ok (.ireturn, 1) := by decide +kernel
theorem dX6_swap_18 : decode cX6_swap 18 = .ok (.aload_n 0, 1) := by decide +kernel
theorem dX6_swap_19 : decode cX6_swap 19 = .ok (.iload_n 1, 1) := by decide +kernel
theorem dX6_swap_20 : decode cX6_swap 20 = .ok (.invokevirtual 164, 3) := by decide +kernel
theorem dX6_swap_23 : decode cX6_swap 23 = .ok (.ifCond .eq 11, 3) := by decide +kernel
theorem dX6_swap_26 : decode cX6_swap 26 = .ok (.aload_n 0, 1) := by decide +kernel
theorem dX6_swap_27 : decode cX6_swap 27 = .ok (.iload_n 2, 1) := by decide +kernel
theorem dX6_swap_28 : decode cX6_swap 28 = .ok (.invokevirtual 164, 3) := by decide +kernel
theorem dX6_swap_31 : decode cX6_swap 31 = .ok (.ifCond .ne 9, 3) := by decide +kernel
theorem dX6_swap_34 : decode cX6_swap 34 = .ok (.aload_n 0, 1) := by decide +kernel
theorem dX6_swap_35 : decode cX6_swap 35 = .ok (.iconst 1, 1) := by decide +kernel
theorem dX6_swap_36 : decode cX6_swap 36 = .ok (.invokevirtual 71, 3) := by decide +kernel
theorem dX6_swap_39 : decode cX6_swap 39 = .ok (.ireturn, 1) := by decide +kernel
theorem dX6_swap_40 : decode cX6_swap 40 = .ok (.iconst 0, 1) := by decide +kernel
theorem dX6_swap_41 : decode cX6_swap 41 = .ok (.istore_n 3, 1) := by decide +kernel
theorem dX6_swap_42 : decode cX6_swap 42 = .ok (.iload_n 3, 1) := by decide +kernel
theorem dX6_swap_43 : decode cX6_swap 43 = .ok (.aload_n 0, 1) := by decide +kernel
theorem dX6_swap_44 : decode cX6_swap 44 = .ok (.getfield 37, 3) := by decide +kernel
theorem dX6_swap_47 : decode cX6_swap 47 = .ok (.if_icmp .ge 73, 3) := by decide +kernel
theorem dX6_swap_50 : decode cX6_swap 50 = .ok (.aload_n 0, 1) := by decide +kernel
theorem dX6_swap_51 : decode cX6_swap 51 = .ok (.getfield 40, 3) := by decide +kernel
theorem dX6_swap_54 : decode cX6_swap 54 = .ok (.bipush 32, 2) := by decide +kernel
theorem dX6_swap_56 : decode cX6_swap 56 = .ok (.iload_n 1, 1) := by decide +kernel
theorem dX6_swap_57 : decode cX6_swap 57 = .ok (.imul, 1) := by decide +kernel
theorem dX6_swap_58 : decode cX6_swap 58 = .ok (.iload_n 3, 1) := by decide +kernel
theorem dX6_swap_59 : decode cX6_swap 59 = .ok (.iadd, 1) := by decide +kernel
theorem dX6_swap_60 : decode cX6_swap 60 = .ok (.iaload, 1) := by decide +kernel
theorem dX6_swap_61 : decode cX6_swap 61 = .ok (.istore 4, 2) := by decide +kernel
theorem dX6_swap_63 : decode cX6_swap 63 = .ok (.aload_n 0, 1) := by decide +kernel
theorem dX6_swap_64 : decode cX6_swap 64 = .ok (.getfield 40, 3) := by decide +kernel
theorem dX6_swap_67 : decode cX6_swap 67 = .ok (.bipush 32, 2) := by decide +kernel
theorem dX6_swap_69 : decode cX6_swap 69 = .ok (.iload_n 1, 1) := by decide +kernel
theorem dX6_swap_70 : decode cX6_swap 70 = .ok (.imul, 1) := by decide +kernel
theorem dX6_swap_71 : decode cX6_swap 71 = .ok (.iload_n 3, 1) := by decide +kernel
theorem dX6_swap_72 : decode cX6_swap 72 = .ok (.iadd, 1) := by decide +kernel
theorem dX6_swap_73 : decode cX6_swap 73 = .ok (.iload_n 1, 1) := by decide +kernel
theorem dX6_swap_74 : decode cX6_swap 74 = .ok (.iload_n 2, 1) := by decide +kernel
theorem dX6_swap_75 : decode cX6_swap 75 = .ok (.if_icmp .ne 9, 3) := by decide +kernel
theorem dX6_swap_78 : decode cX6_swap 78 = .ok (.iload 4, 2) := by decide +kernel
theorem dX6_swap_80 : decode cX6_swap 80 = .ok (.ineg, 1) := by decide +kernel
theorem dX6_swap_81 : decode cX6_swap 81 = .ok (.goto 14, 3) := by decide +kernel
theorem dX6_swap_84 : decode cX6_swap 84 = .ok (.aload_n 0, 1) := by decide +kernel
theorem dX6_swap_85 : decode cX6_swap 85 = .ok (.getfield 40, 3) := by decide +kernel
theorem dX6_swap_88 : decode cX6_swap 88 = .ok (.bipush 32, 2) := by decide +kernel
theorem dX6_swap_90 : decode cX6_swap 90 = .ok (.iload_n 2, 1) := by decide +kernel
theorem dX6_swap_91 : decode cX6_swap 91 = .ok (.imul, 1) := by decide +kernel
theorem dX6_swap_92 : decode cX6_swap 92 = .ok (.iload_n 3, 1) := by decide +kernel
theorem dX6_swap_93 : decode cX6_swap 93 = .ok (.iadd, 1) := by decide +kernel
theorem dX6_swap_94 : decode cX6_swap 94 = .ok (.iaload, 1) := by decide +kernel
theorem dX6_swap_95 : decode cX6_swap 95 = .ok (.iastore, 1) := by decide +kernel
theorem dX6_swap_96 : decode cX6_swap 96 = .ok (.iload_n 1, 1) := by decide +kernel
theorem dX6_swap_97 : decode cX6_swap 97 = .ok (.iload_n 2, 1) := by decide +kernel
theorem dX6_swap_98 : decode cX6_swap 98 = .ok (.if_icmp .eq 16, 3) := by decide +kernel
theorem dX6_swap_101 : decode cX6_swap 101 = .ok (.aload_n 0, 1) := by decide +kernel
theorem dX6_swap_102 : decode cX6_swap 102 = .ok (.getfield 40, 3) := by decide +kernel
theorem dX6_swap_105 : decode cX6_swap 105 = .ok (.bipush 32, 2) := by decide +kernel
theorem dX6_swap_107 : decode cX6_swap 107 = .ok (.iload_n 2, 1) := by decide +kernel
theorem dX6_swap_108 : decode cX6_swap 108 = .ok (.imul, 1) := by decide +kernel
theorem dX6_swap_109 : decode cX6_swap 109 = .ok (.iload_n 3, 1) := by decide +kernel
theorem dX6_swap_110 : decode cX6_swap 110 = .ok (.iadd, 1) := by decide +kernel
theorem dX6_swap_111 : decode cX6_swap 111 = .ok (.iload 4, 2) := by decide +kernel
theorem dX6_swap_113 : decode cX6_swap 113 = .ok (.iastore, 1) := by decide +kernel
theorem dX6_swap_114 : decode cX6_swap 114 = .ok (.iinc 3 1, 3) := by decide +kernel
theorem dX6_swap_117 : decode cX6_swap 117 = .ok (.goto (-75), 3) := by decide +kernel
theorem dX6_swap_120 : decode cX6_swap 120 = .ok (.iconst 1, 1) := by decide +kernel
theorem dX6_swap_121 : decode cX6_swap 121 = .ok (.ireturn, 1) := by decide +kernel
theorem dX6_sign_0 : decode cX6_sign 0 = .ok (.aload_n 0, 1) := by decide +kernel
theorem dX6_sign_1 : decode cX6_sign 1 = .ok (.invokevirtual 68, 3) := by decide +kernel
theorem dX6_sign_4 : decode cX6_sign 4 = .ok (.aload_n 0, 1) := by decide +kernel
theorem dX6_sign_5 : decode cX6_sign 5 = .ok (.iload_n 1, 1) := by decide +kernel
theorem dX6_sign_6 : decode cX6_sign 6 = .ok (.invokevirtual 164, 3) := by decide +kernel
theorem dX6_sign_9 : decode cX6_sign 9 = .ok (.ifCond .eq 25, 3) := by decide +kernel
theorem dX6_sign_12 : decode cX6_sign 12 = .ok (.aload_n 0, 1) := by decide +kernel
theorem dX6_sign_13 : decode cX6_sign 13 = .ok (.iload_n 2, 1) := by decide +kernel
theorem dX6_sign_14 : decode cX6_sign 14 = .ok (.invokevirtual 164, 3) := by decide +kernel
theorem dX6_sign_17 : decode cX6_sign 17 = .ok (.ifCond .eq 17, 3) := by decide +kernel
theorem dX6_sign_20 : decode cX6_sign 20 = .ok (.aload_n 0, 1) := by decide +kernel
theorem dX6_sign_21 : decode cX6_sign 21 = .ok (.getfield 40, 3) := by decide +kernel
theorem dX6_sign_24 : decode cX6_sign 24 = .ok (.bipush 32, 2) := by decide +kernel
theorem dX6_sign_26 : decode cX6_sign 26 = .ok (.iload_n 1, 1) := by decide +kernel
theorem dX6_sign_27 : decode cX6_sign 27 = .ok (.imul, 1) := by decide +kernel
theorem dX6_sign_28 : decode cX6_sign 28 = .ok (.iload_n 2, 1) := by decide +kernel
theorem dX6_sign_29 : decode cX6_sign 29 = .ok (.iadd, 1) := by decide +kernel
theorem dX6_sign_30 : decode cX6_sign 30 = .ok (.iaload, 1) := by decide +kernel
theorem dX6_sign_31 : decode cX6_sign 31 = .ok (.goto 4, 3) := by decide +kernel
theorem dX6_sign_34 : decode cX6_sign 34 = .ok (.iconst 0, 1) := by decide +kernel
theorem dX6_sign_35 : decode cX6_sign 35 = .ok (.ireturn, 1) := by decide +kernel
theorem dX6_product_0 : decode cX6_product 0 = .ok (.aload_n 0, 1) := by decide +kernel
theorem dX6_product_1 : decode cX6_product 1 = .ok (.invokevirtual 68, 3) := by decide +kernel
theorem dX6_product_4 : decode cX6_product 4 = .ok (.aload_n 0, 1) := by decide +kernel
theorem dX6_product_5 : decode cX6_product 5 = .ok (.getfield 37, 3) := by decide +kernel
theorem dX6_product_8 : decode cX6_product 8 = .ok (.iconst (-1), 1) := by decide +kernel
theorem dX6_product_9 : decode cX6_product 9 = .ok (.if_icmp .eq 19, 3) := by decide +kernel
theorem dX6_product_12 : decode cX6_product 12 = .ok (.aload_n 0, 1) := by decide +kernel
theorem dX6_product_13 : decode cX6_product 13 = .ok (.iload_n 1, 1) := by decide +kernel
theorem dX6_product_14 : decode cX6_product 14 = .ok (.invokevirtual 164, 3) := by decide +kernel
theorem dX6_product_17 : decode cX6_product 17 = .ok (.ifCond .eq 11, 3) := by decide +kernel
theorem dX6_product_20 : decode cX6_product 20 = .ok (.aload_n 0, 1) := by decide +kernel
theorem dX6_product_21 : decode cX6_product 21 = .ok (.iload_n 2, 1) := by decide +kernel
theorem dX6_product_22 : decode cX6_product 22 = .ok (.invokevirtual 164, 3) := by decide +kernel
theorem dX6_product_25 : decode cX6_product 25 = .ok (.ifCond .ne 23, 3) := by decide +kernel
theorem dX6_product_28 : decode cX6_product 28 = .ok (.aload_n 0, 1) := by decide +kernel
theorem dX6_product_29 : decode cX6_product 29 = .ok (.aload_n 0, 1) := by decide +kernel
theorem dX6_product_30 : decode cX6_product 30 = .ok (.getfield 37, 3) := by decide +kernel
theorem dX6_product_33 : decode cX6_product 33 = .ok (.iconst (-1), 1) := by decide +kernel
theorem dX6_product_34 : decode cX6_product 34 = .ok (.if_icmp .ne 7, 3) := by decide +kernel
theorem dX6_product_37 : decode cX6_product 37 = .ok (.iconst 2, 1) := by decide +kernel
theorem dX6_product_38 : decode cX6_product 38 = .ok (.goto 4, 3) := by decide +kernel
theorem dX6_product_41 : decode cX6_product 41 = .ok (.iconst 1, 1) := by decide +kernel
theorem dX6_product_42 : decode cX6_product 42 = .ok (.invokevirtual 79, 3) := by decide +kernel
theorem dX6_product_45 : decode cX6_product 45 = .ok (.pop, 1) := by decide +kernel
theorem dX6_product_46 : decode cX6_product 46 = .ok (.iconst 0, 1) := by decide +kernel
theorem dX6_product_47 : decode cX6_product 47 = .ok (.ireturn, 1) := by decide +kernel
theorem dX6_product_48 : decode cX6_product 48 = .ok (.iconst 0, 1) := by decide +kernel
theorem dX6_product_49 : decode cX6_product 49 = .ok (.istore_n 3, 1) := by decide +kernel
theorem dX6_product_50 : decode cX6_product 50 = .ok (.iconst 0, 1) := by decide +kernel
theorem dX6_product_51 : decode cX6_product 51 = .ok (.istore 4, 2) := by decide +kernel
theorem dX6_product_53 : decode cX6_product 53 = .ok (.iload 4, 2) := by decide +kernel
theorem dX6_product_55 : decode cX6_product 55 = .ok (.aload_n 0, 1) := by decide +kernel
theorem dX6_product_56 : decode cX6_product 56 = .ok (.getfield 37, 3) := by decide +kernel
theorem dX6_product_59 : decode cX6_product 59 = .ok (.if_icmp .ge 37, 3) := by decide +kernel
theorem dX6_product_62 : decode cX6_product 62 = .ok (.iload_n 3, 1) := by decide +kernel
theorem dX6_product_63 : decode cX6_product 63 = .ok (.aload_n 0, 1) := by decide +kernel
theorem dX6_product_64 : decode cX6_product 64 = .ok (.getfield 40, 3) := by decide +kernel
theorem dX6_product_67 : decode cX6_product 67 = .ok (.bipush 32, 2) := by decide +kernel
theorem dX6_product_69 : decode cX6_product 69 = .ok (.iload_n 1, 1) := by decide +kernel
theorem dX6_product_70 : decode cX6_product 70 = .ok (.imul, 1) := by decide +kernel
theorem dX6_product_71 : decode cX6_product 71 = .ok (.iload 4, 2) := by decide +kernel
theorem dX6_product_73 : decode cX6_product 73 = .ok (.iadd, 1) := by decide +kernel
theorem dX6_product_74 : decode cX6_product 74 = .ok (.iaload, 1) := by decide +kernel
theorem dX6_product_75 : decode cX6_product 75 = .ok (.aload_n 0, 1) := by decide +kernel
theorem dX6_product_76 : decode cX6_product 76 = .ok (.getfield 40, 3) := by decide +kernel
theorem dX6_product_79 : decode cX6_product 79 = .ok (.bipush 32, 2) := by decide +kernel
theorem dX6_product_81 : decode cX6_product 81 = .ok (.iload_n 2, 1) := by decide +kernel
theorem dX6_product_82 : decode cX6_product 82 = .ok (.imul, 1) := by decide +kernel
theorem dX6_product_83 : decode cX6_product 83 = .ok (.iload 4, 2) := by decide +kernel
theorem dX6_product_85 : decode cX6_product 85 = .ok (.iadd, 1) := by decide +kernel
theorem dX6_product_86 : decode cX6_product 86 = .ok (.iaload, 1) := by decide +kernel
theorem dX6_product_87 : decode cX6_product 87 = .ok (.imul, 1) := by decide +kernel
theorem dX6_product_88 : decode cX6_product 88 = .ok (.iadd, 1) := by decide +kernel
theorem dX6_product_89 : decode cX6_product 89 = .ok (.istore_n 3, 1) := by decide +kernel
theorem dX6_product_90 : decode cX6_product 90 = .ok (.iinc 4 1, 3) := by decide +kernel
theorem dX6_product_93 : decode cX6_product 93 = .ok (.goto (-40), 3) := by decide +kernel
theorem dX6_product_96 : decode cX6_product 96 = .ok (.iload_n 3, 1) := by decide +kernel
theorem dX6_product_97 : decode cX6_product 97 = .ok (.ireturn, 1) := by decide +kernel
theorem dX6_look_0 : decode cX6_look 0 = .ok (.aload_n 0, 1) := by decide +kernel
theorem dX6_look_1 : decode cX6_look 1 = .ok (.invokevirtual 68, 3) := by decide +kernel
theorem dX6_look_4 : decode cX6_look 4 = .ok (.aload_n 0, 1) := by decide +kernel
theorem dX6_look_5 : decode cX6_look 5 = .ok (.getfield 37, 3) := by decide +kernel
theorem dX6_look_8 : decode cX6_look 8 = .ok (.iconst (-1), 1) := by decide +kernel
theorem dX6_look_9 : decode cX6_look 9 = .ok (.if_icmp .eq 11, 3) := by decide +kernel
theorem dX6_look_12 : decode cX6_look 12 = .ok (.aload_n 0, 1) := by decide +kernel
theorem dX6_look_13 : decode cX6_look 13 = .ok (.iload_n 1, 1) := by decide +kernel
theorem dX6_look_14 : decode cX6_look 14 = .ok (.invokevirtual 164, 3) := by decide +kernel
theorem dX6_look_17 : decode cX6_look 17 = .ok (.ifCond .ne 23, 3) := by decide +kernel
theorem dX6_look_20 : decode cX6_look 20 = .ok (.aload_n 0, 1) := by decide +kernel
theorem dX6_look_21 : decode cX6_look 21 = .ok (.aload_n 0, 1) := by decide +kernel
theorem dX6_look_22 : decode cX6_look 22 = .ok (.getfield 37, 3) := by decide +kernel
theorem dX6_look_25 : decode cX6_look 25 = .ok (.iconst (-1), 1) := by decide +kernel
theorem dX6_look_26 : decode cX6_look 26 = .ok (.if_icmp .ne 7, 3) := by decide +kernel
theorem dX6_look_29 : decode cX6_look 29 = .ok (.iconst 2, 1) := by decide +kernel
theorem dX6_look_30 : decode cX6_look 30 = .ok (.goto 4, 3) := by decide +kernel
theorem dX6_look_33 : decode cX6_look 33 = .ok (.iconst 1, 1) := by decide +kernel
theorem dX6_look_34 : decode cX6_look 34 = .ok (.invokevirtual 79, 3) := by decide +kernel
theorem dX6_look_37 : decode cX6_look 37 = .ok (.pop, 1) := by decide +kernel
theorem dX6_look_38 : decode cX6_look 38 = .ok (.iconst 0, 1) := by decide +kernel
theorem dX6_look_39 : decode cX6_look 39 = .ok (.ireturn, 1) := by decide +kernel
theorem dX6_look_40 : decode cX6_look 40 = .ok (.iconst 0, 1) := by decide +kernel
theorem dX6_look_41 : decode cX6_look 41 = .ok (.istore_n 2, 1) := by decide +kernel
theorem dX6_look_42 : decode cX6_look 42 = .ok (.iconst 0, 1) := by decide +kernel
theorem dX6_look_43 : decode cX6_look 43 = .ok (.istore_n 3, 1) := by decide +kernel
theorem dX6_look_44 : decode cX6_look 44 = .ok (.iload_n 3, 1) := by decide +kernel
theorem dX6_look_45 : decode cX6_look 45 = .ok (.aload_n 0, 1) := by decide +kernel
theorem dX6_look_46 : decode cX6_look 46 = .ok (.getfield 37, 3) := by decide +kernel
theorem dX6_look_49 : decode cX6_look 49 = .ok (.if_icmp .ge 38, 3) := by decide +kernel
theorem dX6_look_52 : decode cX6_look 52 = .ok (.iload_n 3, 1) := by decide +kernel
theorem dX6_look_53 : decode cX6_look 53 = .ok (.aload_n 0, 1) := by decide +kernel
theorem dX6_look_54 : decode cX6_look 54 = .ok (.getfield 7, 3) := by decide +kernel
theorem dX6_look_57 : decode cX6_look 57 = .ok (.if_icmp .ge 30, 3) := by decide +kernel
theorem dX6_look_60 : decode cX6_look 60 = .ok (.iload_n 2, 1) := by decide +kernel
theorem dX6_look_61 : decode cX6_look 61 = .ok (.aload_n 0, 1) := by decide +kernel
theorem dX6_look_62 : decode cX6_look 62 = .ok (.getfield 40, 3) := by decide +kernel
theorem dX6_look_65 : decode cX6_look 65 = .ok (.bipush 32, 2) := by decide +kernel
theorem dX6_look_67 : decode cX6_look 67 = .ok (.iload_n 1, 1) := by decide +kernel
theorem dX6_look_68 : decode cX6_look 68 = .ok (.imul, 1) := by decide +kernel
theorem dX6_look_69 : decode cX6_look 69 = .ok (.iload_n 3, 1) := by decide +kernel
theorem dX6_look_70 : decode cX6_look 70 = .ok (.iadd, 1) := by decide +kernel
theorem dX6_look_71 : decode cX6_look 71 = .ok (.iaload, 1) := by decide +kernel
theorem dX6_look_72 : decode cX6_look 72 = .ok (.aload_n 0, 1) := by decide +kernel
theorem dX6_look_73 : decode cX6_look 73 = .ok (.getfield 17, 3) := by decide +kernel
theorem dX6_look_76 : decode cX6_look 76 = .ok (.iload_n 3, 1) := by decide +kernel
theorem dX6_look_77 : decode cX6_look 77 = .ok (.iaload, 1) := by decide +kernel
theorem dX6_look_78 : decode cX6_look 78 = .ok (.imul, 1) := by decide +kernel
theorem dX6_look_79 : decode cX6_look 79 = .ok (.iadd, 1) := by decide +kernel
theorem dX6_look_80 : decode cX6_look 80 = .ok (.istore_n 2, 1) := by decide +kernel
theorem dX6_look_81 : decode cX6_look 81 = .ok (.iinc 3 1, 3) := by decide +kernel
theorem dX6_look_84 : decode cX6_look 84 = .ok (.goto (-40), 3) := by decide +kernel
theorem dX6_look_87 : decode cX6_look 87 = .ok (.iload_n 2, 1) := by decide +kernel
theorem dX6_look_88 : decode cX6_look 88 = .ok (.ireturn, 1) := by decide +kernel
theorem dX6_fault_0 : decode cX6_fault 0 = .ok (.aload_n 0, 1) := by decide +kernel
theorem dX6_fault_1 : decode cX6_fault 1 = .ok (.getfield 61, 3) := by decide +kernel
theorem dX6_fault_4 : decode cX6_fault 4 = .ok (.ireturn, 1) := by decide +kernel
end
section
/-! THE WORLD: one memory for class and reference together; cells 0 .. 32 the class's, 33 .. 45 the reference's, 46 the law's own row -/
abbrev Mm : Type := (Nat → Nat → Int32) × (Nat → Nat → Int64)
def sI (μ : Mm) (k i : Nat) (x : Int32) : Mm := (fun k' => if k' = k then upd (μ.1 k) i x else μ.1 k', μ.2)
def sL (μ : Mm) (k i : Nat) (x : Int64) : Mm := (μ.1, fun k' => if k' = k then vp_updL (μ.2 k) i x else μ.2 k')
abbrev Mb : Type := MethodName × ByteArray × Nat × Option FieldType
abbrev cl7 : List vw_C := [(RX0, TX0, 2), (RX1, TX1, 3), (RX2, TX2, 4), (RX3, TX3, 3), (RX4, TX4, 5), (RX5, TX5, 6), (RX6, TX6, 21)]
/-- the length of an array cell -/
def lenC (k : Nat) : Nat := if k < 12 then 60 else if k < 27 then 15 else if k < 29 then 14 else if k < 31 then 300 else if k < 32 then 800 else if k < 33 then 32 else if k < 39 then 60 else if k < 40 then 14 else if k < 41 then 1024 else if k < 42 then 800 else if k < 43 then 210 else if k < 44 then 15 else if k < 45 then 14 else if k < 46 then 60 else 1
/-- is it an array of longs -/
def isJ (k : Nat) : Bool := (13 ≤ k && k ≤ 28) || k == 39 || k == 42 || k == 43 || k == 44 || k == 46
def cellOf (ad : Nat → Nat) (cy : Nat → ClassId) (k : Nat) (a : Nat → Int32) (b : Nat → Int64) : va_E :=
  if k = 0 then .inr (5, [.ref (ad 1), .ref (ad 2), .ref (ad 3), .ref (ad 4), .ref (ad 5), .int (a 5)])
  else if k = 1 then .inr (1, [.ref (ad 6), .ref (ad 10), .int (a 2)])
  else if k = 2 then .inr (3, [.ref (ad 11), .int (a 1), .int (a 2)])
  else if k = 3 then .inr (4, [.ref (ad 12), .ref (ad 27), .ref (ad 28), .long (b 3), .int (a 4)])
  else if k = 4 then .inr (2, [.ref (ad 29), .ref (ad 30), .ref (ad 31), .int (a 3)])
  else if k = 5 then .inr (0, [.ref (ad 32), .int (a 1)])
  else if k = 6 then .inl (cy 3, 3, .inr (.inr (.inr (.inr (fun j => if j < 3 then some (ad (7 + j)) else none)))))
  else if k = 12 then .inl (cy 4, 14, .inr (.inr (.inr (.inr (fun j => if j < 14 then some (ad (13 + j)) else none)))))
  else if k = 33 then .inr (6, [.int (a 0), .ref (ad 34), .ref (ad 35), .ref (ad 36), .ref (ad 37), .int (a 5), .int (a 6), .ref (ad 38), .long (b 8), .ref (ad 39), .int (a 10), .ref (ad 40), .ref (ad 41), .int (a 13), .int (a 14), .int (a 15), .ref (ad 42), .ref (ad 43), .ref (ad 44), .ref (ad 45), .long (b 20)])
  else if isJ k = true then .inl (cy 1, lenC k, .inr (.inl b))
  else if k = 37 then .inl (cy 2, 60, .inl a)
  else .inl (cy 0, lenC k, .inl a)
def wd (ad : Nat → Nat) (cy : Nat → ClassId) (μ : Mm) : va_W := (List.range 47).map (fun k => (ad k, cellOf ad cy k (μ.1 k) (μ.2 k)))
theorem wd_get {ad : Nat → Nat} {cy : Nat → ClassId} {μ : Mm} {k : Nat} (h : k < 47) : (wd ad cy μ)[k]? = some (ad k, cellOf ad cy k (μ.1 k) (μ.2 k)) := by
  simp [wd, h]
theorem wd_set {ad : Nat → Nat} {cy : Nat → ClassId} {μ μ' : Mm} {k : Nat} {e : va_E} (h1 : ∀ k', k' ≠ k → μ'.1 k' = μ.1 k' ∧ μ'.2 k' = μ.2 k') (he : cellOf ad cy k (μ'.1 k) (μ'.2 k) = e) : (wd ad cy μ).set k (ad k, e) = wd ad cy μ' := by
  subst he
  apply List.ext_getElem?
  intro i
  rw [List.getElem?_set]
  by_cases hk : k = i
  · subst hk
    by_cases hl : k < 47
    · simp [wd, hl]
    · simp [wd, hl]
  · rw [if_neg hk]
    by_cases hl : i < 47
    · rw [wd_get hl, wd_get hl, (h1 i (Ne.symm hk)).1, (h1 i (Ne.symm hk)).2]
    · simp [wd, hl]
theorem sI_off {μ : Mm} {k i : Nat} {x : Int32} : ∀ k', k' ≠ k → (sI μ k i x).1 k' = μ.1 k' ∧ (sI μ k i x).2 k' = μ.2 k' := fun k' h => ⟨by simp [sI, h], rfl⟩
theorem sL_off {μ : Mm} {k i : Nat} {x : Int64} : ∀ k', k' ≠ k → (sL μ k i x).1 k' = μ.1 k' ∧ (sL μ k i x).2 k' = μ.2 k' := fun k' h => ⟨rfl, by simp [sL, h]⟩
theorem sI_at {μ : Mm} {k i : Nat} {x : Int32} : (sI μ k i x).1 k = upd (μ.1 k) i x := by simp [sI]
theorem sL_at {μ : Mm} {k i : Nat} {x : Int64} : (sL μ k i x).2 k = vp_updL (μ.2 k) i x := by simp [sL]
/-- cell k is a row of n ints (longs, booleans) -/
def isI (k n : Nat) : Prop := k < 47 ∧ ∀ (ad : Nat → Nat) (cy : Nat → ClassId) (a : Nat → Int32) (b : Nat → Int64), cellOf ad cy k a b = .inl (cy 0, n, .inl a)
def isL (k n : Nat) : Prop := k < 47 ∧ ∀ (ad : Nat → Nat) (cy : Nat → ClassId) (a : Nat → Int32) (b : Nat → Int64), cellOf ad cy k a b = .inl (cy 1, n, .inr (.inl b))
def isZ (k n : Nat) : Prop := k < 47 ∧ ∀ (ad : Nat → Nat) (cy : Nat → ClassId) (a : Nat → Int32) (b : Nat → Int64), cellOf ad cy k a b = .inl (cy 2, n, .inl a)
def isQ (k n b0 : Nat) (t : Nat) : Prop := k < 47 ∧ ∀ (ad : Nat → Nat) (cy : Nat → ClassId) (a : Nat → Int32) (b : Nat → Int64), cellOf ad cy k a b = .inl (cy t, n, .inr (.inr (.inr (.inr (fun j => if j < n then some (ad (b0 + j)) else none)))))
theorem isI_row {w : Nat} (h : w < 3) : isI (7 + w) 60 := by
  rcases (show w = 0 ∨ w = 1 ∨ w = 2 by omega) with rfl | rfl | rfl <;> exact ⟨by decide, fun _ _ _ _ => rfl⟩
theorem isL_row {w : Nat} (h : w < 14) : isL (13 + w) 15 := by
  refine ⟨by omega, fun ad cy a b => ?_⟩
  have hj : isJ (13 + w) = true := by simp [isJ]; omega
  unfold cellOf
  rw [if_neg (by omega), if_neg (by omega), if_neg (by omega), if_neg (by omega), if_neg (by omega), if_neg (by omega), if_neg (by omega), if_neg (by omega), if_neg (by omega), if_pos hj]
  have hl : lenC (13 + w) = 15 := by unfold lenC; rw [if_neg (by omega), if_pos (by omega)]
  rw [hl]
theorem isI_10 : isI 10 60 := ⟨by decide, fun _ _ _ _ => rfl⟩
theorem isI_11 : isI 11 60 := ⟨by decide, fun _ _ _ _ => rfl⟩
theorem isL_27 : isL 27 14 := ⟨by decide, fun _ _ _ _ => rfl⟩
theorem isL_28 : isL 28 14 := ⟨by decide, fun _ _ _ _ => rfl⟩
theorem isI_29 : isI 29 300 := ⟨by decide, fun _ _ _ _ => rfl⟩
theorem isI_30 : isI 30 300 := ⟨by decide, fun _ _ _ _ => rfl⟩
theorem isI_31 : isI 31 800 := ⟨by decide, fun _ _ _ _ => rfl⟩
theorem isI_32 : isI 32 32 := ⟨by decide, fun _ _ _ _ => rfl⟩
theorem isI_34 : isI 34 60 := ⟨by decide, fun _ _ _ _ => rfl⟩
theorem isI_35 : isI 35 60 := ⟨by decide, fun _ _ _ _ => rfl⟩
theorem isI_36 : isI 36 60 := ⟨by decide, fun _ _ _ _ => rfl⟩
theorem isZ_37 : isZ 37 60 := ⟨by decide, fun _ _ _ _ => rfl⟩
theorem isI_38 : isI 38 60 := ⟨by decide, fun _ _ _ _ => rfl⟩
theorem isL_39 : isL 39 14 := ⟨by decide, fun _ _ _ _ => rfl⟩
theorem isI_40 : isI 40 1024 := ⟨by decide, fun _ _ _ _ => rfl⟩
theorem isI_41 : isI 41 800 := ⟨by decide, fun _ _ _ _ => rfl⟩
theorem isL_42 : isL 42 210 := ⟨by decide, fun _ _ _ _ => rfl⟩
theorem isL_43 : isL 43 15 := ⟨by decide, fun _ _ _ _ => rfl⟩
theorem isL_44 : isL 44 14 := ⟨by decide, fun _ _ _ _ => rfl⟩
theorem isI_45 : isI 45 60 := ⟨by decide, fun _ _ _ _ => rfl⟩
theorem isL_46 : isL 46 1 := ⟨by decide, fun _ _ _ _ => rfl⟩
theorem isQ_6 : isQ 6 3 7 3 := ⟨by decide, fun _ _ _ _ => rfl⟩
theorem isQ_12 : isQ 12 14 13 4 := ⟨by decide, fun _ _ _ _ => rfl⟩
abbrev ty5 (cy : Nat → ClassId) : List (ClassId × FieldType) := [(cy 0, .int), (cy 1, .long), (cy 2, .boolean), (cy 3, .array .int), (cy 4, .array .long)]
/-- the addresses of the world, and all that come new -/
def Adr (ad : Nat → Nat) (sz : Nat) : Nat → Prop := fun q => (∃ k, k < 47 ∧ q = ad k) ∨ sz ≤ q
def Inj (ad : Nat → Nat) : Prop := ∀ i j, i < 47 → j < 47 → ad i = ad j → i = j
theorem wd_D {ad : Nat → Nat} {cy : Nat → ClassId} {μ : Mm} {sz : Nat} (h : Inj ad) : va_D (Adr ad sz) (wd ad cy μ) := by
  have hk : ∀ (i : Nat) (q : Nat × va_E), (wd ad cy μ)[i]? = some q → i < 47 ∧ q.1 = ad i := by
    intro i q hq
    by_cases hl : i < 47
    · rw [wd_get hl] at hq; cases hq; exact ⟨hl, rfl⟩
    · simp [wd, hl] at hq
  refine ⟨fun i j p q hi hj e => ?_, fun k q hq => ?_⟩
  · obtain ⟨h1, e1⟩ := hk i p hi
    obtain ⟨h2, e2⟩ := hk j q hj
    exact h i j h1 h2 (by rw [← e1, ← e2, e])
  · obtain ⟨h1, e1⟩ := hk k q hq
    exact Or.inl ⟨k, h1, e1⟩
/-- refs are cells' numbers; in the machine their addresses -/
def rv (ad : Nat → Nat) : Value → Value
  | .ref k => .ref (ad k)
  | v => v
/-- words that hold for good -/
def tw : List Cond := lw_tbl.filter goodWord
def isNs : Cond → Bool
  | .fieldLinkNest _ _ _ _ _ _ => true
  | .methodLinkNest _ _ _ _ => true
  | _ => false
def nw : List Cond := lw_tbl.filter isNs
theorem tw_good : ∀ w ∈ tw, (w.onTables && w.keeps) = true ∨ ∃ ty, w = .arrayClass ty := fun w h => good_of_word (List.mem_filter.mp h).2
theorem nw_warm {w : Cond} (h : isNs w = true) {s U : State} (hW : s.WarmedH U.vm) (hZ : va_Nw w s) : va_Nw w U := by
  cases w <;> first | exact va_Nw.warmF hW hZ | exact va_Nw.warmM hW hZ | (simp [isNs] at h)
theorem nw_same {w : Cond} (h : isNs w = true) {s U : State} (hW : s.vm = U.vm) (hZ : va_Nw w s) : va_Nw w U := by
  cases w <;> first | exact va_Nw.same rfl hW hZ | (simp [isNs] at h)
theorem nw_of {w : Cond} (h : isNs w = true) {A : Array Value} {U : State} (hZ : w.before A U = true) : va_Nw w U := by
  cases w <;> first | exact va_Nw.of rfl hZ | (simp [isNs] at h)
/-- addresses; classes and slots; array classes; the place of LIMITS -/
abbrev Cc : Type := (Nat → Nat) × va_G × (Nat → ClassId) × Nat
def limF (j : Nat) : Int32 := if j = 0 then 1 else if j = 1 then 1000 else 1000000
def Zs (γ : Cc) (sz : Nat) (U : State) (H : Heap) : Prop := va_Z "HoleMask$Circle" "LIMITS" "[I" (.ref (γ.1 47)) (Adr γ.1 sz) U H ∧ va_T .int (γ.1 47) 3 (fun j => .int (limF j)) (Adr γ.1 sz) U H
def Kw (γ : Cc) (U : State) : Prop := va_K γ.2.1 cl7 (ty5 γ.2.2.1) U ∧ ∀ w ∈ nw, va_Nw w U
theorem Kw.warm {γ : Cc} {s U : State} (h : Kw γ s) (hW : s.WarmedH U.vm) : Kw γ U := ⟨va_K.moved hW.alike h.1, fun w hw => nw_warm (List.mem_filter.mp hw).2 hW (h.2 w hw)⟩
theorem Kw.same {γ : Cc} {s U : State} (h : Kw γ s) (hW : s.vm = U.vm) : Kw γ U := ⟨va_K.moved (hW ▸ Vm.Alike.refl s.vm) h.1, fun w hw => nw_same (List.mem_filter.mp hw).2 hW (h.2 w hw)⟩
abbrev Wp (γ : Cc) (μ : Mm) (H : Heap) : Prop := va_P γ.2.1 cl7 (wd γ.1 γ.2.2.1 μ) H
/-- where a contract begins -/
def PreW (γ : Cc) (sz : Nat) (μ : Mm) (U : State) : Prop := U.heap.size = sz ∧ Wp γ μ U.heap ∧ Kw γ U ∧ Inj γ.1 ∧ Zs γ sz U U.heap
/-- what a method answers and leaves -/
def QR (γ : Cc) (R : Option Value × Mm) (sz : Nat) : Array Value → State → Outcome → State → Prop := match R.1 with
  | some (.int x) => va_Qi (fun y (_ : Unit) => y = x) (fun _ t => Wp γ R.2 t.heap) (Adr γ.1 sz)
  | some (.long x) => va_Ql (fun y (_ : Unit) => y = x) (fun _ t => Wp γ R.2 t.heap) (Adr γ.1 sz)
  | _ => va_Qv (fun (_ : Unit) => True) (fun _ t => Wp γ R.2 t.heap) (Adr γ.1 sz)
def wsM (M : Mb) : List Cond := .code M.1 M.2.1 M.2.2.1 M.2.2.2 :: tw
/-- THE CONTRACT: called with as, memory μ, the method answers R.1 and leaves memory R.2 -/
def Ok (M : Mb) (rm : Room) (as : List Value) (μ : Mm) (R : Option Value × Mm) : Prop := ∀ (γ : Cc) (l : Launch) (sz : Nat), Met l M.1 (wsM M) rm (va_Pc (as.map (rv γ.1)) (PreW γ sz μ)) (QR γ R sz) 0 0 (Adr γ.1 sz)
/-- what stays the same in a method -/
def Cx (γ : Cc) (M : Mb) (p : Program) (s : State) (m : MethodId) (args : Array Value) (meth : Method) (c : Code) : Prop :=
  p.tables.exec = Jvm.exec ∧ c.code = M.2.1 ∧ meth.sig.returnType = M.2.2.2 ∧ c.maxLocals = M.2.2.1 ∧ s.vm.findClass M.1.cls = some m.cls ∧ (∀ w ∈ tw, w.before args s = true) ∧ meth.locks = false ∧ Kw γ s ∧ Inj γ.1 ∧ Zs γ s.heap.size s s.heap
def Hw (γ : Cc) (s : State) (H : Heap) (locs : List Loc) (μ : Mm) : Prop := Wp γ μ H ∧ va_S (Adr γ.1 s.heap.size) s.heap H locs
def Lo (γ : Cc) (ls : Array Slot) (n : Nat) (lo : List (Option Value)) : Prop := ls.size = n ∧ lv_wf ls ∧ lo.length ≤ n ∧ ∀ (i : Nat) (v : Value), lo[i]? = some (some v) → ls[i]? = some (Slot.val (rv γ.1 v))
/-- THE JUDGEMENT: from pc with locals lo, stack st, memory μ the method answers R.1 and leaves R.2 -/
def G (M : Mb) (rm : Room) (R : Option Value × Mm) (μ : Mm) (pc : Nat) (lo : List (Option Value)) (st : List Value) : Prop :=
  ∀ (γ : Cc) (p : Program) (l : Launch) (e : Env) (s : State) (m : MethodId) (args : Array Value) (below : List Frame) (meth : Method) (c : Code), Cx γ M p s m args meth c → ∀ (H : Heap) (locs : List Loc) (ls : Array Slot), Hw γ s H locs μ → Lo γ ls M.2.2.1 lo →
    W p l e rm s m args below meth c H locs 0 0 (MQ below (QR γ R s.heap.size) args s 0 0 (Adr γ.1 s.heap.size)) (F0 m pc ls (st.map (rv γ.1)))
/-- locals at the entry -/
def lo1 : List Value → List (Option Value)
  | [] => []
  | v :: vs => if v.category = 2 then some v :: none :: lo1 vs else some v :: lo1 vs
theorem rv_cat (ad : Nat → Nat) (v : Value) : (rv ad v).category = v.category := by cases v <;> rfl
theorem lo1_args (ad : Nat → Nat) : ∀ (as : List Value) (k i : Nat) (v : Value), (lo1 as)[i]? = some (some v) → (k + i, rv ad v) ∈ lv_args k (as.map (rv ad))
  | [], k, i, v, h => by simp [lo1] at h
  | a :: as, k, i, v, h => by
    simp only [List.map_cons, lv_args, rv_cat]
    unfold lo1 at h
    by_cases hc : a.category = 2
    · rw [if_pos hc] at h
      rw [if_pos hc]
      match i, h with
      | 0, h => cases h; exact List.mem_cons_self
      | 1, h => cases h
      | i + 2, h =>
        have := lo1_args ad as (k + 2) i v h
        rw [show k + (i + 2) = k + 2 + i by omega]
        exact List.mem_cons_of_mem _ this
    · rw [if_neg hc] at h
      rw [if_neg hc]
      match i, h with
      | 0, h => cases h; exact List.mem_cons_self
      | i + 1, h =>
        have := lo1_args ad as (k + 1) i v h
        rw [show k + (i + 1) = k + 1 + i by omega]
        exact List.mem_cons_of_mem _ this
theorem lo1_len (ad : Nat → Nat) : ∀ as : List Value, (lg_sl (as.map (rv ad))).length = (lo1 as).length
  | [] => rfl
  | a :: as => by
    have ih := lo1_len ad as
    unfold lg_sl at ih ⊢
    unfold lo1
    rw [List.map_cons, List.flatMap_cons, List.length_append, ih, rv_cat]
    by_cases hc : a.category = 2
    · rw [if_pos hc, if_pos hc]; simp; omega
    · rw [if_neg hc, if_neg hc]; simp; omega
set_option maxHeartbeats 4000000 in
theorem Ok.of {M : Mb} {rm : Room} {as : List Value} {μ : Mm} {R : Option Value × Mm} (hy : plainName M.1.cls = true) (hn : (lo1 as).length ≤ M.2.2.1) (lo : List (Option Value)) (hlo : lo1 as ++ List.replicate (M.2.2.1 - (lo1 as).length) none = lo) (h : G M rm R μ 0 lo []) : Ok M rm as μ R := by
  intro γ l sz
  refine Met.ofW (cc := M.2.1) (maxL := M.2.2.1) (ret := M.2.2.2) hy rfl ?_
  intro p e s m args below meth c s₁ B hml hv
  obtain ⟨rfl, hsz, hP, hK, hI, hZ⟩ := hv
  subst hsz
  have hts := atoms_spec (ws := wsM M) B.pre
  have hl := lv_entry (as.map (rv γ.1)) (n := M.2.2.1) (by rw [lo1_len]; exact hn)
  rw [lg_entry_eq]
  refine h γ p l e s m _ below meth c ⟨B.exec, B.bytes, B.returns, hml, findClass_of_methodNamed B.named, fun w hw => hts w (List.mem_cons_of_mem _ hw), B.notSynchronized, hK, hI, hZ⟩ s.heap [] _ ⟨hP, va_S.rf⟩ ⟨hl.1, hl.2.1, ?_, ?_⟩
  · rw [← hlo]; simp
    try omega
  · intro i v hi
    rw [← hlo] at hi
    have hi2 : (lo1 as)[i]? = some (some v) := by
      by_cases hlt : i < (lo1 as).length
      · rw [List.getElem?_append_left hlt] at hi; exact hi
      · rw [List.getElem?_append_right (by omega)] at hi
        rw [List.getElem?_replicate] at hi
        split at hi <;> cases hi
    have := lo1_args γ.1 as 0 i v hi2
    rw [Nat.zero_add] at this
    exact hl.2.2 _ this
end
section
/-! THE RULES of the judgement G: one an instruction -/
section
variable {M : Mb} {rm : Room} {R : Option Value × Mm} {μ : Mm} {pc : Nat} {lo : List (Option Value)} {st : List Value}
theorem g_iconst {n : Int} (v : Int32) (d : decode M.2.1 pc = .ok (.iconst n, 1)) (hv : Int32.ofInt n = v) (k : G M rm R μ (pc + 1) lo (.int v :: st)) : G M rm R μ pc lo st :=
  fun γ p l e s m args below meth c C H locs ls hw hl => lv_iconst C.1 C.2.1 d hv (k γ p l e s m args below meth c C H locs ls hw hl)
theorem g_bipush {n : Int} (v : Int32) (d : decode M.2.1 pc = .ok (.bipush n, 2)) (hv : (Int8.ofInt n).toInt32 = v) (k : G M rm R μ (pc + 2) lo (.int v :: st)) : G M rm R μ pc lo st :=
  fun γ p l e s m args below meth c C H locs ls hw hl => lv_bipush C.1 C.2.1 d hv (k γ p l e s m args below meth c C H locs ls hw hl)
theorem g_sipush {n : Int} (v : Int32) (d : decode M.2.1 pc = .ok (.sipush n, 3)) (hv : (Int16.ofInt n).toInt32 = v) (k : G M rm R μ (pc + 3) lo (.int v :: st)) : G M rm R μ pc lo st :=
  fun γ p l e s m args below meth c C H locs ls hw hl => lv_sipush C.1 C.2.1 d hv (k γ p l e s m args below meth c C H locs ls hw hl)
theorem g_lconst {n : Fin 2} (v : Int64) (d : decode M.2.1 pc = .ok (.lconst n, 1)) (hv : Int64.ofNat (n : Nat) = v) (k : G M rm R μ (pc + 1) lo (.long v :: st)) : G M rm R μ pc lo st :=
  fun γ p l e s m args below meth c C H locs ls hw hl => lv_lconst C.1 C.2.1 d hv (k γ p l e s m args below meth c C H locs ls hw hl)
theorem g_ldc {index : Nat} {own : String} (v : Int32) (ho : M.1.cls = own) (hw : Cond.constant own index v ∈ tw) (d : decode M.2.1 pc = .ok (.ldc index, 2)) (k : G M rm R μ (pc + 2) lo (.int v :: st)) : G M rm R μ pc lo st := by
  subst ho
  exact fun γ p l e s m args below meth c C H locs ls hw1 hl => lv_ldc C.1 C.2.1 C.2.2.2.2.1 (C.2.2.2.2.2.1 _ hw) d (k γ p l e s m args below meth c C H locs ls hw1 hl)
theorem g_ldcw {index : Nat} {own : String} (v : Int32) (ho : M.1.cls = own) (hw : Cond.constant own index v ∈ tw) (d : decode M.2.1 pc = .ok (.ldc_w index, 3)) (k : G M rm R μ (pc + 3) lo (.int v :: st)) : G M rm R μ pc lo st := by
  subst ho
  exact fun γ p l e s m args below meth c C H locs ls hw1 hl => lv_ldcw C.1 C.2.1 C.2.2.2.2.1 (C.2.2.2.2.2.1 _ hw) d (k γ p l e s m args below meth c C H locs ls hw1 hl)
theorem g_ldc2 {index : Nat} {own : String} (v : Int64) (ho : M.1.cls = own) (hw : Cond.constantLong own index v ∈ tw) (d : decode M.2.1 pc = .ok (.ldc2_w index, 3)) (k : G M rm R μ (pc + 3) lo (.long v :: st)) : G M rm R μ pc lo st := by
  subst ho
  exact fun γ p l e s m args below meth c C H locs ls hw1 hl => lv_ldc2 C.1 C.2.1 C.2.2.2.2.1 (C.2.2.2.2.2.1 _ hw) d (k γ p l e s m args below meth c C H locs ls hw1 hl)
theorem g_iload_n {q : Fin 4} (i : Nat) (x : Int32) (d : decode M.2.1 pc = .ok (.iload_n q, 1)) (hi : (q : Nat) = i) (h : lo[i]? = some (some (.int x))) (k : G M rm R μ (pc + 1) lo (.int x :: st)) : G M rm R μ pc lo st :=
  fun γ p l e s m args below meth c C H locs ls hw hl => lv_iload_n C.1 C.2.1 d hi (hl.2.2.2 _ _ h) (k γ p l e s m args below meth c C H locs ls hw hl)
theorem g_iload {i : Nat} (x : Int32) (d : decode M.2.1 pc = .ok (.iload i, 2)) (h : lo[i]? = some (some (.int x))) (k : G M rm R μ (pc + 2) lo (.int x :: st)) : G M rm R μ pc lo st :=
  fun γ p l e s m args below meth c C H locs ls hw hl => lv_iload C.1 C.2.1 d (hl.2.2.2 _ _ h) (k γ p l e s m args below meth c C H locs ls hw hl)
theorem g_lload_n {q : Fin 4} (i : Nat) (x : Int64) (d : decode M.2.1 pc = .ok (.lload_n q, 1)) (hi : (q : Nat) = i) (h : lo[i]? = some (some (.long x))) (k : G M rm R μ (pc + 1) lo (.long x :: st)) : G M rm R μ pc lo st :=
  fun γ p l e s m args below meth c C H locs ls hw hl => lv_lload_n C.1 C.2.1 d hi (hl.2.2.2 _ _ h) (k γ p l e s m args below meth c C H locs ls hw hl)
theorem g_lload {i : Nat} (x : Int64) (d : decode M.2.1 pc = .ok (.lload i, 2)) (h : lo[i]? = some (some (.long x))) (k : G M rm R μ (pc + 2) lo (.long x :: st)) : G M rm R μ pc lo st :=
  fun γ p l e s m args below meth c C H locs ls hw hl => lv_lload C.1 C.2.1 d (hl.2.2.2 _ _ h) (k γ p l e s m args below meth c C H locs ls hw hl)
theorem g_aload_n {q : Fin 4} (i : Nat) (x : Nat) (d : decode M.2.1 pc = .ok (.aload_n q, 1)) (hi : (q : Nat) = i) (h : lo[i]? = some (some (.ref x))) (k : G M rm R μ (pc + 1) lo (.ref x :: st)) : G M rm R μ pc lo st :=
  fun γ p l e s m args below meth c C H locs ls hw hl => lv_aload_n C.1 C.2.1 d hi (hl.2.2.2 _ _ h) (k γ p l e s m args below meth c C H locs ls hw hl)
theorem g_aload {i : Nat} (x : Nat) (d : decode M.2.1 pc = .ok (.aload i, 2)) (h : lo[i]? = some (some (.ref x))) (k : G M rm R μ (pc + 2) lo (.ref x :: st)) : G M rm R μ pc lo st :=
  fun γ p l e s m args below meth c C H locs ls hw hl => lv_aload C.1 C.2.1 d (hl.2.2.2 _ _ h) (k γ p l e s m args below meth c C H locs ls hw hl)
/-- a long stands just ahead of i -/
def okS (lo : List (Option Value)) : Nat → Bool
  | 0 => true
  | j + 1 => match lo[j]? with
    | some (some v) => !(v.category == 2)
    | _ => true
def alo (ad : Nat → Nat) (lo : List (Option Value)) : List (Nat × Value) := (List.range lo.length).filterMap (fun i => match lo[i]? with
  | some (some v) => some (i, rv ad v)
  | _ => none)
theorem alo_mem {ad : Nat → Nat} {lo : List (Option Value)} {i : Nat} {v : Value} (h : lo[i]? = some (some v)) : (i, rv ad v) ∈ alo ad lo := by
  have hl : i < lo.length := (List.getElem?_eq_some_iff.mp h).1
  refine List.mem_filterMap.mpr ⟨i, List.mem_range.mpr hl, ?_⟩
  rw [h]
theorem alo_of {ad : Nat → Nat} {lo : List (Option Value)} {q : Nat × Value} (h : q ∈ alo ad lo) : ∃ v, lo[q.1]? = some (some v) ∧ q.2 = rv ad v := by
  obtain ⟨i, hi, hq⟩ := List.mem_filterMap.mp h
  split at hq
  · rename_i v hv
    cases hq
    exact ⟨v, hv, rfl⟩
  · cases hq
theorem Lo.has {γ : Cc} {ls : Array Slot} {n : Nat} {lo : List (Option Value)} (h : Lo γ ls n lo) : lv_has ls n (alo γ.1 lo) := ⟨h.1, h.2.1, fun q hq => by
  obtain ⟨v, h1, h2⟩ := alo_of hq
  rw [h2]
  exact h.2.2.2 _ _ h1⟩
theorem Lo.set1 {γ : Cc} {ls ls' : Array Slot} {n i : Nat} {lo : List (Option Value)} {v : Value} (h : Lo γ ls n lo) (ho : okS lo i = true) (h' : lv_has ls' n ((i, rv γ.1 v) :: (alo γ.1 lo).filter (fun q => !(q.1 == i) && !(q.1 + 1 == i && q.2.category == 2)))) : Lo γ ls' n (lo.set i (some v)) := by
  refine ⟨h'.1, h'.2.1, by rw [List.length_set]; exact h.2.2.1, fun j w hj => ?_⟩
  rw [List.getElem?_set] at hj
  by_cases he : i = j
  · subst he
    simp only [if_true] at hj
    split at hj
    · cases hj
      exact h'.2.2 (i, rv γ.1 v) List.mem_cons_self
    · cases hj
  · rw [if_neg he] at hj
    refine h'.2.2 (j, rv γ.1 w) (List.mem_cons_of_mem _ (List.mem_filter.mpr ⟨alo_mem hj, ?_⟩))
    have e1 : (j == i) = false := by simp; exact fun q => he q.symm
    by_cases e2 : j + 1 = i
    · subst e2
      simp only [okS, hj] at ho
      simp [e1, rv_cat]
      simpa using ho
    · simp [e1, e2]
theorem Lo.set2 {γ : Cc} {ls ls' : Array Slot} {n i : Nat} {lo : List (Option Value)} {v : Value} (h : Lo γ ls n lo) (ho : okS lo i = true) (h' : lv_has ls' n ((i, rv γ.1 v) :: (alo γ.1 lo).filter (fun q => !(q.1 == i) && (!(q.1 == i + 1) && !(q.1 + 1 == i && q.2.category == 2))))) : Lo γ ls' n ((lo.set i (some v)).set (i + 1) none) := by
  refine ⟨h'.1, h'.2.1, by rw [List.length_set, List.length_set]; exact h.2.2.1, fun j w hj => ?_⟩
  rw [List.getElem?_set] at hj
  by_cases he : i + 1 = j
  · subst he
    simp only [if_true] at hj
    split at hj <;> cases hj
  · rw [if_neg he, List.getElem?_set] at hj
    by_cases he1 : i = j
    · subst he1
      simp only [if_true] at hj
      split at hj
      · cases hj
        exact h'.2.2 (i, rv γ.1 v) List.mem_cons_self
      · cases hj
    · rw [if_neg he1] at hj
      refine h'.2.2 (j, rv γ.1 w) (List.mem_cons_of_mem _ (List.mem_filter.mpr ⟨alo_mem hj, ?_⟩))
      have e1 : (j == i) = false := by simp; exact fun q => he1 q.symm
      have e3 : (j == i + 1) = false := by simp; exact fun q => he q.symm
      by_cases e2 : j + 1 = i
      · subst e2
        simp only [okS, hj] at ho
        simp [e1, e3, rv_cat]
        simpa using ho
      · simp [e1, e2, e3]
theorem g_istore_n {q : Fin 4} {i : Nat} {x : Int32} (lo' : List (Option Value)) (d : decode M.2.1 pc = .ok (.istore_n q, 1)) (hi : (q : Nat) = i) (hn : i < M.2.2.1) (ho : okS lo i = true) (h : lo.set i (some (.int x)) = lo') (k : G M rm R μ (pc + 1) lo' st) : G M rm R μ pc lo (.int x :: st) := by
  subst h
  exact fun γ p l e s m args below meth c C H locs ls hw hl => lv_istore_n C.1 C.2.1 d hi hl.has hn rfl (fun ls' hl' => k γ p l e s m args below meth c C H locs ls' hw (hl.set1 (v := .int x) ho hl'))
theorem g_istore {i : Nat} {x : Int32} (lo' : List (Option Value)) (d : decode M.2.1 pc = .ok (.istore i, 2)) (hn : i < M.2.2.1) (ho : okS lo i = true) (h : lo.set i (some (.int x)) = lo') (k : G M rm R μ (pc + 2) lo' st) : G M rm R μ pc lo (.int x :: st) := by
  subst h
  exact fun γ p l e s m args below meth c C H locs ls hw hl => lv_istore C.1 C.2.1 d hl.has hn rfl (fun ls' hl' => k γ p l e s m args below meth c C H locs ls' hw (hl.set1 (v := .int x) ho hl'))
theorem g_astore {i : Nat} {x : Nat} (lo' : List (Option Value)) (d : decode M.2.1 pc = .ok (.astore i, 2)) (hn : i < M.2.2.1) (ho : okS lo i = true) (h : lo.set i (some (.ref x)) = lo') (k : G M rm R μ (pc + 2) lo' st) : G M rm R μ pc lo (.ref x :: st) := by
  subst h
  exact fun γ p l e s m args below meth c C H locs ls hw hl => lv_astore C.1 C.2.1 d hl.has hn rfl (fun ls' hl' => k γ p l e s m args below meth c C H locs ls' hw (hl.set1 (v := .ref x) ho hl'))
theorem g_lstore_n {q : Fin 4} {i : Nat} {x : Int64} (lo' : List (Option Value)) (d : decode M.2.1 pc = .ok (.lstore_n q, 1)) (hi : (q : Nat) = i) (hn : i + 1 < M.2.2.1) (ho : okS lo i = true) (h : (lo.set i (some (.long x))).set (i + 1) none = lo') (k : G M rm R μ (pc + 1) lo' st) : G M rm R μ pc lo (.long x :: st) := by
  subst h
  exact fun γ p l e s m args below meth c C H locs ls hw hl => lv_lstore_n C.1 C.2.1 d hi hl.has hn rfl (fun ls' hl' => k γ p l e s m args below meth c C H locs ls' hw (hl.set2 (v := .long x) ho hl'))
theorem g_lstore {i : Nat} {x : Int64} (lo' : List (Option Value)) (d : decode M.2.1 pc = .ok (.lstore i, 2)) (hn : i + 1 < M.2.2.1) (ho : okS lo i = true) (h : (lo.set i (some (.long x))).set (i + 1) none = lo') (k : G M rm R μ (pc + 2) lo' st) : G M rm R μ pc lo (.long x :: st) := by
  subst h
  exact fun γ p l e s m args below meth c C H locs ls hw hl => lv_lstore C.1 C.2.1 d hl.has hn rfl (fun ls' hl' => k γ p l e s m args below meth c C H locs ls' hw (hl.set2 (v := .long x) ho hl'))
theorem g_iinc {i : Nat} {n : Int} {x v : Int32} (lo' : List (Option Value)) (d : decode M.2.1 pc = .ok (.iinc i n, 3)) (h0 : lo[i]? = some (some (.int x))) (hv : x + Int32.ofInt n = v) (hn : i < M.2.2.1) (ho : okS lo i = true) (h : lo.set i (some (.int v)) = lo') (k : G M rm R μ (pc + 3) lo' st) : G M rm R μ pc lo st := by
  subst h
  exact fun γ p l e s m args below meth c C H locs ls hw hl => by
    obtain ⟨q, hq⟩ := List.getElem?_of_mem (alo_mem (ad := γ.1) h0)
    exact lv_iinc C.1 C.2.1 d hl.has hq hv hn rfl (fun ls' hl' => k γ p l e s m args below meth c C H locs ls' hw (hl.set1 (v := .int v) ho hl'))
theorem g_iadd {x y : Int32} (d : decode M.2.1 pc = .ok (.iadd, 1)) (k : G M rm R μ (pc + 1) lo (.int (x + y) :: st)) : G M rm R μ pc lo (.int y :: .int x :: st) :=
  fun γ p l e s m args below meth c C H locs ls hw hl => lv_iadd C.1 C.2.1 d (k γ p l e s m args below meth c C H locs ls hw hl)
theorem g_isub {x y : Int32} (d : decode M.2.1 pc = .ok (.isub, 1)) (k : G M rm R μ (pc + 1) lo (.int (x - y) :: st)) : G M rm R μ pc lo (.int y :: .int x :: st) :=
  fun γ p l e s m args below meth c C H locs ls hw hl => lv_isub C.1 C.2.1 d (k γ p l e s m args below meth c C H locs ls hw hl)
theorem g_imul {x y : Int32} (d : decode M.2.1 pc = .ok (.imul, 1)) (k : G M rm R μ (pc + 1) lo (.int (x * y) :: st)) : G M rm R μ pc lo (.int y :: .int x :: st) :=
  fun γ p l e s m args below meth c C H locs ls hw hl => lv_imul C.1 C.2.1 d (k γ p l e s m args below meth c C H locs ls hw hl)
theorem g_iand {x y : Int32} (d : decode M.2.1 pc = .ok (.iand, 1)) (k : G M rm R μ (pc + 1) lo (.int (x &&& y) :: st)) : G M rm R μ pc lo (.int y :: .int x :: st) :=
  fun γ p l e s m args below meth c C H locs ls hw hl => lv_iand C.1 C.2.1 d (k γ p l e s m args below meth c C H locs ls hw hl)
theorem g_ior {x y : Int32} (d : decode M.2.1 pc = .ok (.ior, 1)) (k : G M rm R μ (pc + 1) lo (.int (x ||| y) :: st)) : G M rm R μ pc lo (.int y :: .int x :: st) :=
  fun γ p l e s m args below meth c C H locs ls hw hl => lv_ior C.1 C.2.1 d (k γ p l e s m args below meth c C H locs ls hw hl)
theorem g_ixor {x y : Int32} (d : decode M.2.1 pc = .ok (.ixor, 1)) (k : G M rm R μ (pc + 1) lo (.int (x ^^^ y) :: st)) : G M rm R μ pc lo (.int y :: .int x :: st) :=
  fun γ p l e s m args below meth c C H locs ls hw hl => lv_ixor C.1 C.2.1 d (k γ p l e s m args below meth c C H locs ls hw hl)
theorem g_ladd {x y : Int64} (d : decode M.2.1 pc = .ok (.ladd, 1)) (k : G M rm R μ (pc + 1) lo (.long (x + y) :: st)) : G M rm R μ pc lo (.long y :: .long x :: st) :=
  fun γ p l e s m args below meth c C H locs ls hw hl => lv_ladd C.1 C.2.1 d (k γ p l e s m args below meth c C H locs ls hw hl)
theorem g_lsub {x y : Int64} (d : decode M.2.1 pc = .ok (.lsub, 1)) (k : G M rm R μ (pc + 1) lo (.long (x - y) :: st)) : G M rm R μ pc lo (.long y :: .long x :: st) :=
  fun γ p l e s m args below meth c C H locs ls hw hl => lv_lsub C.1 C.2.1 d (k γ p l e s m args below meth c C H locs ls hw hl)
theorem g_lmul {x y : Int64} (d : decode M.2.1 pc = .ok (.lmul, 1)) (k : G M rm R μ (pc + 1) lo (.long (x * y) :: st)) : G M rm R μ pc lo (.long y :: .long x :: st) :=
  fun γ p l e s m args below meth c C H locs ls hw hl => lv_lmul C.1 C.2.1 d (k γ p l e s m args below meth c C H locs ls hw hl)
theorem g_irem {x y : Int32} (d : decode M.2.1 pc = .ok (.irem, 1)) (hne : ¬ y = 0) (k : G M rm R μ (pc + 1) lo (.int (x - x / y * y) :: st)) : G M rm R μ pc lo (.int y :: .int x :: st) :=
  fun γ p l e s m args below meth c C H locs ls hw hl => lv_irem C.1 C.2.1 d hne (k γ p l e s m args below meth c C H locs ls hw hl)
theorem g_ldiv {x y : Int64} (d : decode M.2.1 pc = .ok (.ldiv, 1)) (hne : ¬ y = 0) (k : G M rm R μ (pc + 1) lo (.long (x / y) :: st)) : G M rm R μ pc lo (.long y :: .long x :: st) :=
  fun γ p l e s m args below meth c C H locs ls hw hl => lv_ldiv C.1 C.2.1 d hne (k γ p l e s m args below meth c C H locs ls hw hl)
theorem g_lrem {x y : Int64} (d : decode M.2.1 pc = .ok (.lrem, 1)) (hne : ¬ y = 0) (k : G M rm R μ (pc + 1) lo (.long (x - x / y * y) :: st)) : G M rm R μ pc lo (.long y :: .long x :: st) :=
  fun γ p l e s m args below meth c C H locs ls hw hl => lv_lrem C.1 C.2.1 d hne (k γ p l e s m args below meth c C H locs ls hw hl)
theorem g_ineg {x : Int32} (d : decode M.2.1 pc = .ok (.ineg, 1)) (k : G M rm R μ (pc + 1) lo (.int (-x) :: st)) : G M rm R μ pc lo (.int x :: st) :=
  fun γ p l e s m args below meth c C H locs ls hw hl => lv_ineg C.1 C.2.1 d (k γ p l e s m args below meth c C H locs ls hw hl)
theorem g_lneg {x : Int64} (d : decode M.2.1 pc = .ok (.lneg, 1)) (k : G M rm R μ (pc + 1) lo (.long (-x) :: st)) : G M rm R μ pc lo (.long x :: st) :=
  fun γ p l e s m args below meth c C H locs ls hw hl => lv_lneg C.1 C.2.1 d (k γ p l e s m args below meth c C H locs ls hw hl)
theorem g_ishl {x y : Int32} (d : decode M.2.1 pc = .ok (.ishl, 1)) (k : G M rm R μ (pc + 1) lo (.int (x <<< (y &&& 31)) :: st)) : G M rm R μ pc lo (.int y :: .int x :: st) :=
  fun γ p l e s m args below meth c C H locs ls hw hl => lv_ishl C.1 C.2.1 d (k γ p l e s m args below meth c C H locs ls hw hl)
theorem g_ishr {x y : Int32} (d : decode M.2.1 pc = .ok (.ishr, 1)) (k : G M rm R μ (pc + 1) lo (.int (x >>> (y &&& 31)) :: st)) : G M rm R μ pc lo (.int y :: .int x :: st) :=
  fun γ p l e s m args below meth c C H locs ls hw hl => lv_ishr C.1 C.2.1 d (k γ p l e s m args below meth c C H locs ls hw hl)
theorem g_iushr {x y : Int32} (d : decode M.2.1 pc = .ok (.iushr, 1)) (k : G M rm R μ (pc + 1) lo (.int ((x.toUInt32 >>> (y.toUInt32 &&& Int32.toUInt32 31)).toInt32) :: st)) : G M rm R μ pc lo (.int y :: .int x :: st) :=
  fun γ p l e s m args below meth c C H locs ls hw hl => lv_iushr C.1 C.2.1 d rfl (k γ p l e s m args below meth c C H locs ls hw hl)
theorem g_i2l {x : Int32} (d : decode M.2.1 pc = .ok (.i2l, 1)) (k : G M rm R μ (pc + 1) lo (.long x.toInt64 :: st)) : G M rm R μ pc lo (.int x :: st) :=
  fun γ p l e s m args below meth c C H locs ls hw hl => lv_i2l C.1 C.2.1 d rfl (k γ p l e s m args below meth c C H locs ls hw hl)
theorem g_l2i {x : Int64} (d : decode M.2.1 pc = .ok (.l2i, 1)) (k : G M rm R μ (pc + 1) lo (.int x.toInt32 :: st)) : G M rm R μ pc lo (.long x :: st) :=
  fun γ p l e s m args below meth c C H locs ls hw hl => lv_l2i C.1 C.2.1 d rfl (k γ p l e s m args below meth c C H locs ls hw hl)
theorem g_i2b {x : Int32} (d : decode M.2.1 pc = .ok (.i2b, 1)) (k : G M rm R μ (pc + 1) lo (.int x.toInt8.toInt32 :: st)) : G M rm R μ pc lo (.int x :: st) :=
  fun γ p l e s m args below meth c C H locs ls hw hl => lv_i2b C.1 C.2.1 d rfl (k γ p l e s m args below meth c C H locs ls hw hl)
theorem g_i2s {x : Int32} (d : decode M.2.1 pc = .ok (.i2s, 1)) (k : G M rm R μ (pc + 1) lo (.int x.toInt16.toInt32 :: st)) : G M rm R μ pc lo (.int x :: st) :=
  fun γ p l e s m args below meth c C H locs ls hw hl => lv_i2s C.1 C.2.1 d rfl (k γ p l e s m args below meth c C H locs ls hw hl)
theorem g_lcmp {x y : Int64} (d : decode M.2.1 pc = .ok (.lcmp, 1)) (k : G M rm R μ (pc + 1) lo (.int (lg_cmp x y) :: st)) : G M rm R μ pc lo (.long y :: .long x :: st) :=
  fun γ p l e s m args below meth c C H locs ls hw hl => W.lcmp C.1 C.2.1 d (k γ p l e s m args below meth c C H locs ls hw hl)
theorem g_if_eq {x : Int32} {off : Int} (tgt : Nat) (d : decode M.2.1 pc = .ok (.ifCond .eq off, 3)) (ht : (pc : Int) + off = (tgt : Int)) (kt : x = 0 → G M rm R μ tgt lo st) (kf : ¬ (x = 0) → G M rm R μ (pc + 3) lo st) : G M rm R μ pc lo (.int x :: st) :=
  fun γ p l e s m args below meth c C H locs ls hw hl => lv_if_eq C.1 C.2.1 d ht (fun h => kt h γ p l e s m args below meth c C H locs ls hw hl) (fun h => kf h γ p l e s m args below meth c C H locs ls hw hl)
theorem g_if_ne {x : Int32} {off : Int} (tgt : Nat) (d : decode M.2.1 pc = .ok (.ifCond .ne off, 3)) (ht : (pc : Int) + off = (tgt : Int)) (kt : x ≠ 0 → G M rm R μ tgt lo st) (kf : x = 0 → G M rm R μ (pc + 3) lo st) : G M rm R μ pc lo (.int x :: st) :=
  fun γ p l e s m args below meth c C H locs ls hw hl => lv_if_ne C.1 C.2.1 d ht (fun h => kt h γ p l e s m args below meth c C H locs ls hw hl) (fun h => kf h γ p l e s m args below meth c C H locs ls hw hl)
theorem g_if_lt {x : Int32} {off : Int} (tgt : Nat) (d : decode M.2.1 pc = .ok (.ifCond .lt off, 3)) (ht : (pc : Int) + off = (tgt : Int)) (kt : x < 0 → G M rm R μ tgt lo st) (kf : ¬ (x < 0) → G M rm R μ (pc + 3) lo st) : G M rm R μ pc lo (.int x :: st) :=
  fun γ p l e s m args below meth c C H locs ls hw hl => lv_if_lt C.1 C.2.1 d ht (fun h => kt h γ p l e s m args below meth c C H locs ls hw hl) (fun h => kf h γ p l e s m args below meth c C H locs ls hw hl)
theorem g_if_ge {x : Int32} {off : Int} (tgt : Nat) (d : decode M.2.1 pc = .ok (.ifCond .ge off, 3)) (ht : (pc : Int) + off = (tgt : Int)) (kt : 0 ≤ x → G M rm R μ tgt lo st) (kf : ¬ (0 ≤ x) → G M rm R μ (pc + 3) lo st) : G M rm R μ pc lo (.int x :: st) :=
  fun γ p l e s m args below meth c C H locs ls hw hl => lv_if_ge C.1 C.2.1 d ht (fun h => kt h γ p l e s m args below meth c C H locs ls hw hl) (fun h => kf h γ p l e s m args below meth c C H locs ls hw hl)
theorem g_if_gt {x : Int32} {off : Int} (tgt : Nat) (d : decode M.2.1 pc = .ok (.ifCond .gt off, 3)) (ht : (pc : Int) + off = (tgt : Int)) (kt : 0 < x → G M rm R μ tgt lo st) (kf : ¬ (0 < x) → G M rm R μ (pc + 3) lo st) : G M rm R μ pc lo (.int x :: st) :=
  fun γ p l e s m args below meth c C H locs ls hw hl => lv_if_gt C.1 C.2.1 d ht (fun h => kt h γ p l e s m args below meth c C H locs ls hw hl) (fun h => kf h γ p l e s m args below meth c C H locs ls hw hl)
theorem g_if_le {x : Int32} {off : Int} (tgt : Nat) (d : decode M.2.1 pc = .ok (.ifCond .le off, 3)) (ht : (pc : Int) + off = (tgt : Int)) (kt : x ≤ 0 → G M rm R μ tgt lo st) (kf : ¬ (x ≤ 0) → G M rm R μ (pc + 3) lo st) : G M rm R μ pc lo (.int x :: st) :=
  fun γ p l e s m args below meth c C H locs ls hw hl => lv_if_le C.1 C.2.1 d ht (fun h => kt h γ p l e s m args below meth c C H locs ls hw hl) (fun h => kf h γ p l e s m args below meth c C H locs ls hw hl)
theorem g_icmp_eq {x y : Int32} {off : Int} (tgt : Nat) (d : decode M.2.1 pc = .ok (.if_icmp .eq off, 3)) (ht : (pc : Int) + off = (tgt : Int)) (kt : x = y → G M rm R μ tgt lo st) (kf : ¬ (x = y) → G M rm R μ (pc + 3) lo st) : G M rm R μ pc lo (.int y :: .int x :: st) :=
  fun γ p l e s m args below meth c C H locs ls hw hl => lv_icmp_eq C.1 C.2.1 d ht (fun h => kt h γ p l e s m args below meth c C H locs ls hw hl) (fun h => kf h γ p l e s m args below meth c C H locs ls hw hl)
theorem g_icmp_ne {x y : Int32} {off : Int} (tgt : Nat) (d : decode M.2.1 pc = .ok (.if_icmp .ne off, 3)) (ht : (pc : Int) + off = (tgt : Int)) (kt : x ≠ y → G M rm R μ tgt lo st) (kf : x = y → G M rm R μ (pc + 3) lo st) : G M rm R μ pc lo (.int y :: .int x :: st) :=
  fun γ p l e s m args below meth c C H locs ls hw hl => lv_icmp_ne C.1 C.2.1 d ht (fun h => kt h γ p l e s m args below meth c C H locs ls hw hl) (fun h => kf h γ p l e s m args below meth c C H locs ls hw hl)
theorem g_icmp_lt {x y : Int32} {off : Int} (tgt : Nat) (d : decode M.2.1 pc = .ok (.if_icmp .lt off, 3)) (ht : (pc : Int) + off = (tgt : Int)) (kt : x < y → G M rm R μ tgt lo st) (kf : ¬ (x < y) → G M rm R μ (pc + 3) lo st) : G M rm R μ pc lo (.int y :: .int x :: st) :=
  fun γ p l e s m args below meth c C H locs ls hw hl => lv_icmp_lt C.1 C.2.1 d ht (fun h => kt h γ p l e s m args below meth c C H locs ls hw hl) (fun h => kf h γ p l e s m args below meth c C H locs ls hw hl)
theorem g_icmp_ge {x y : Int32} {off : Int} (tgt : Nat) (d : decode M.2.1 pc = .ok (.if_icmp .ge off, 3)) (ht : (pc : Int) + off = (tgt : Int)) (kt : y ≤ x → G M rm R μ tgt lo st) (kf : ¬ (y ≤ x) → G M rm R μ (pc + 3) lo st) : G M rm R μ pc lo (.int y :: .int x :: st) :=
  fun γ p l e s m args below meth c C H locs ls hw hl => lv_icmp_ge C.1 C.2.1 d ht (fun h => kt h γ p l e s m args below meth c C H locs ls hw hl) (fun h => kf h γ p l e s m args below meth c C H locs ls hw hl)
theorem g_icmp_gt {x y : Int32} {off : Int} (tgt : Nat) (d : decode M.2.1 pc = .ok (.if_icmp .gt off, 3)) (ht : (pc : Int) + off = (tgt : Int)) (kt : y < x → G M rm R μ tgt lo st) (kf : ¬ (y < x) → G M rm R μ (pc + 3) lo st) : G M rm R μ pc lo (.int y :: .int x :: st) :=
  fun γ p l e s m args below meth c C H locs ls hw hl => lv_icmp_gt C.1 C.2.1 d ht (fun h => kt h γ p l e s m args below meth c C H locs ls hw hl) (fun h => kf h γ p l e s m args below meth c C H locs ls hw hl)
theorem g_icmp_le {x y : Int32} {off : Int} (tgt : Nat) (d : decode M.2.1 pc = .ok (.if_icmp .le off, 3)) (ht : (pc : Int) + off = (tgt : Int)) (kt : x ≤ y → G M rm R μ tgt lo st) (kf : ¬ (x ≤ y) → G M rm R μ (pc + 3) lo st) : G M rm R μ pc lo (.int y :: .int x :: st) :=
  fun γ p l e s m args below meth c C H locs ls hw hl => lv_icmp_le C.1 C.2.1 d ht (fun h => kt h γ p l e s m args below meth c C H locs ls hw hl) (fun h => kf h γ p l e s m args below meth c C H locs ls hw hl)
theorem g_goto {off : Int} (tgt : Nat) (d : decode M.2.1 pc = .ok (.goto off, 3)) (ht : (pc : Int) + off = (tgt : Int)) (k : G M rm R μ tgt lo st) : G M rm R μ pc lo st :=
  fun γ p l e s m args below meth c C H locs ls hw hl => lv_goto C.1 C.2.1 d ht (k γ p l e s m args below meth c C H locs ls hw hl)
theorem g_dup {v : Value} (d : decode M.2.1 pc = .ok (.dup, 1)) (hv : v.category = 1) (k : G M rm R μ (pc + 1) lo (v :: v :: st)) : G M rm R μ pc lo (v :: st) :=
  fun γ p l e s m args below meth c C H locs ls hw hl => lv_dup C.1 C.2.1 d (by rw [rv_cat]; exact hv) (k γ p l e s m args below meth c C H locs ls hw hl)
theorem g_dup2 {v w : Value} (d : decode M.2.1 pc = .ok (.dup2, 1)) (hv : v.category = 1) (hw : w.category = 1) (k : G M rm R μ (pc + 1) lo (v :: w :: v :: w :: st)) : G M rm R μ pc lo (v :: w :: st) :=
  fun γ p l e s m args below meth c C H locs ls hw1 hl => lv_dup2_11 C.1 C.2.1 d (by rw [rv_cat]; exact hv) (by rw [rv_cat]; exact hw) (k γ p l e s m args below meth c C H locs ls hw1 hl)
theorem g_pop {v : Value} (d : decode M.2.1 pc = .ok (.pop, 1)) (hv : v.category = 1) (k : G M rm R μ (pc + 1) lo st) : G M rm R μ pc lo (v :: st) :=
  fun γ p l e s m args below meth c C H locs ls hw hl => lv_pop C.1 C.2.1 d (by rw [rv_cat]; exact hv) (k γ p l e s m args below meth c C H locs ls hw hl)
end
end
section
/-! rows, fields, returns, calls -/
section
variable {M : Mb} {rm : Room} {R : Option Value × Mm} {μ : Mm} {pc : Nat} {lo : List (Option Value)} {st : List Value}
theorem g_iaload {k n j : Nat} {i : Int32} (hk : isI k n) (hi : i = nI j) (hj : j < n) (hn : n ≤ 1024) (d : decode M.2.1 pc = .ok (.iaload, 1)) (kk : G M rm R μ (pc + 1) lo (.int (μ.1 k j) :: st)) : G M rm R μ pc lo (.int i :: .ref k :: st) := by
  subst hi
  intro γ p l e s m args below meth c C H locs ls hw hl
  have h := kk γ p l e s m args below meth c C H locs ls hw hl
  refine va_iald (D := γ.2.1) C.1 C.2.1 C.2.2.2.2.2.2.2.1.1 hw.1 k 0 (by rw [wd_get hk.1, hk.2]) rfl (vp_in_nI hj (by omega)) d ?_
  rw [nI_clamp (by omega)]
  exact h
theorem g_baload {k n j : Nat} {i : Int32} (hk : isZ k n) (hi : i = nI j) (hj : j < n) (hn : n ≤ 1024) (d : decode M.2.1 pc = .ok (.baload, 1)) (kk : G M rm R μ (pc + 1) lo (.int (μ.1 k j) :: st)) : G M rm R μ pc lo (.int i :: .ref k :: st) := by
  subst hi
  intro γ p l e s m args below meth c C H locs ls hw hl
  have h := kk γ p l e s m args below meth c C H locs ls hw hl
  refine va_zald (D := γ.2.1) C.1 C.2.1 C.2.2.2.2.2.2.2.1.1 hw.1 k 2 (by rw [wd_get hk.1, hk.2]) rfl (vp_in_nI hj (by omega)) d ?_
  rw [nI_clamp (by omega)]
  exact h
theorem g_laload {k n j : Nat} {i : Int32} (hk : isL k n) (hi : i = nI j) (hj : j < n) (hn : n ≤ 1024) (d : decode M.2.1 pc = .ok (.laload, 1)) (kk : G M rm R μ (pc + 1) lo (.long (μ.2 k j) :: st)) : G M rm R μ pc lo (.int i :: .ref k :: st) := by
  subst hi
  intro γ p l e s m args below meth c C H locs ls hw hl
  have h := kk γ p l e s m args below meth c C H locs ls hw hl
  refine va_lald (D := γ.2.1) C.1 C.2.1 C.2.2.2.2.2.2.2.1.1 hw.1 k 1 (by rw [wd_get hk.1, hk.2]) rfl (vp_in_nI hj (by omega)) d ?_
  rw [nI_clamp (by omega)]
  exact h
theorem g_aaload {k n j b0 t : Nat} {i : Int32} (hk : isQ k n b0 t) (ht : t = 3 ∨ t = 4) (hi : i = nI j) (hj : j < n) (hn : n ≤ 1024) (d : decode M.2.1 pc = .ok (.aaload, 1)) (kk : G M rm R μ (pc + 1) lo (.ref (b0 + j) :: st)) : G M rm R μ pc lo (.int i :: .ref k :: st) := by
  subst hi
  intro γ p l e s m args below meth c C H locs ls hw hl
  have h := kk γ p l e s m args below meth c C H locs ls hw hl
  have hc : H[γ.1 k]? = some (vp_cell (γ.2.2.1 t) (n, .inr (.inr (.inr (.inr (fun j => if j < n then some (γ.1 (b0 + j)) else none)))))) := by
    have h0 := hw.1 k (γ.1 k, _) (by rw [wd_get hk.1, hk.2])
    exact h0
  have hin : ¬ (nI j < 0 ∨ n ≤ (nI j).toNatClampNeg) := vp_in_nI hj (by omega)
  obtain ⟨ty, hty, har⟩ : ∃ ty : FieldType, ty.isReference = true ∧ ArrOfT s (γ.2.2.1 t) ty := by
    rcases ht with rfl | rfl
    · exact ⟨.array .int, rfl, (C.2.2.2.2.2.2.2.1.1.2 3 _ rfl).1⟩
    · exact ⟨.array .long, rfl, (C.2.2.2.2.2.2.2.1.1.2 4 _ rfl).1⟩
  refine W.aald (v := .ref (γ.1 (b0 + j))) (ty := ty) C.1 C.2.1 hc (har n _) hty (fun q => by cases q) (by show ¬ (nI j < 0 ∨ (arrV _ _ _).slots.size ≤ _); rw [arrV_size]; exact hin) ?_ rfl rfl d h
  show (arrV _ _ _).slots[_]? = _
  rw [nI_clamp (by omega), arrV_read _ _ hj]
  simp [hj, va_rf]
theorem g_iastore {k n j : Nat} {i x : Int32} (hk : isI k n) (hi : i = nI j) (hj : j < n) (hn : n ≤ 1024) (d : decode M.2.1 pc = .ok (.iastore, 1)) (kk : G M rm R (sI μ k j x) (pc + 1) lo st) : G M rm R μ pc lo (.int x :: .int i :: .ref k :: st) := by
  subst hi
  intro γ p l e s m args below meth c C H locs ls hw hl
  refine va_iast (D := γ.2.1) C.1 C.2.1 C.2.2.2.2.2.2.2.1.1 hw.1 (wd_D C.2.2.2.2.2.2.2.2.1) hw.2 k 0 (by rw [wd_get hk.1, hk.2]) rfl (vp_in_nI hj (by omega)) d (fun H1 locs1 hP _ hS => ?_)
  rw [nI_clamp (by omega), wd_set (μ' := sI μ k j x) sI_off (by rw [hk.2, sI_at])] at hP
  exact kk γ p l e s m args below meth c C H1 locs1 ls ⟨hP, hS⟩ hl
theorem g_lastore {k n j : Nat} {i : Int32} {x : Int64} (hk : isL k n) (hi : i = nI j) (hj : j < n) (hn : n ≤ 1024) (d : decode M.2.1 pc = .ok (.lastore, 1)) (kk : G M rm R (sL μ k j x) (pc + 1) lo st) : G M rm R μ pc lo (.long x :: .int i :: .ref k :: st) := by
  subst hi
  intro γ p l e s m args below meth c C H locs ls hw hl
  refine va_last (D := γ.2.1) C.1 C.2.1 C.2.2.2.2.2.2.2.1.1 hw.1 (wd_D C.2.2.2.2.2.2.2.2.1) hw.2 k 1 (by rw [wd_get hk.1, hk.2]) rfl (vp_in_nI hj (by omega)) d (fun H1 locs1 hP _ hS => ?_)
  rw [nI_clamp (by omega), wd_set (μ' := sL μ k j x) sL_off (by rw [hk.2, sL_at])] at hP
  exact kk γ p l e s m args below meth c C H1 locs1 ls ⟨hP, hS⟩ hl
theorem g_bastore {k n j : Nat} {i x : Int32} (hk : isZ k n) (hi : i = nI j) (hj : j < n) (hn : n ≤ 1024) (hx : vp_nar .boolean x = x) (d : decode M.2.1 pc = .ok (.bastore, 1)) (kk : G M rm R (sI μ k j x) (pc + 1) lo st) : G M rm R μ pc lo (.int x :: .int i :: .ref k :: st) := by
  subst hi
  intro γ p l e s m args below meth c C H locs ls hw hl
  refine va_zast (D := γ.2.1) C.1 C.2.1 C.2.2.2.2.2.2.2.1.1 hw.1 (wd_D C.2.2.2.2.2.2.2.2.1) hw.2 k 2 (by rw [wd_get hk.1, hk.2]) rfl (vp_in_nI hj (by omega)) d (fun H1 locs1 hP _ hS => ?_)
  rw [nI_clamp (by omega), hx, wd_set (μ' := sI μ k j x) sI_off (by rw [hk.2, sI_at])] at hP
  exact kk γ p l e s m args below meth c C H1 locs1 ls ⟨hP, hS⟩ hl
theorem g_alen {k n : Nat} {v : Int32} (hk : isI k n) (hv : Int32.ofNat n = v) (d : decode M.2.1 pc = .ok (.arraylength, 1)) (kk : G M rm R μ (pc + 1) lo (.int v :: st)) : G M rm R μ pc lo (.ref k :: st) := by
  intro γ p l e s m args below meth c C H locs ls hw hl
  exact va_alen (D := γ.2.1) C.1 C.2.1 C.2.2.2.2.2.2.2.1.1 hw.1 k 0 (by rw [wd_get hk.1, hk.2]) rfl hv d (kk γ p l e s m args below meth c C H locs ls hw hl)
/-- object k is of the class number ci, its fields F -/
def isF (k ci : Nat) (F : (Nat → Nat) → (Nat → Int32) → (Nat → Int64) → List Value) : Prop := k < 47 ∧ ∀ (ad : Nat → Nat) (cy : Nat → ClassId) (a : Nat → Int32) (b : Nat → Int64), cellOf ad cy k a b = .inr (ci, F ad a b)
theorem g_getf {k ci f index N : Nat} {own C : String} {T : u_T} {F : (Nat → Nat) → (Nat → Int32) → (Nat → Int64) → List Value} {v : Value} (ho : M.1.cls = own) (hk : isF k ci F) (hcl : cl7[ci]? = some (C, T, N)) (hin : ∀ w ∈ u_ws C T N, w ∈ tw) (hf : f < N) (hlk : Cond.fieldLink own index (T f).1 (T f).2.1 (T f).2.2.1 ∈ tw) (hv : ∀ ad : Nat → Nat, (F ad (μ.1 k) (μ.2 k))[f]? = some (rv ad v)) (d : decode M.2.1 pc = .ok (.getfield index, 3)) (kk : G M rm R μ (pc + 3) lo (v :: st)) : G M rm R μ pc lo (.ref k :: st) := by
  subst ho
  intro γ p l e s m args below meth c C H locs ls hw hl
  exact va_get (D := γ.2.1) (ci := ci) C.1 C.2.1 C.2.2.2.2.2.1 hin C.2.2.2.2.1 C.2.2.2.2.2.2.2.1.1 hw.1 k (by rw [wd_get hk.1, hk.2]) hcl f hf (C.2.2.2.2.2.1 _ hlk) (fun _ h => h) (hv γ.1) d (kk γ p l e s m args below meth c C H locs ls hw hl)
theorem g_getN {k ci f index N : Nat} {own C host : String} {T : u_T} {F : (Nat → Nat) → (Nat → Int32) → (Nat → Int64) → List Value} {v : Value} (ho : M.1.cls = own) (hk : isF k ci F) (hcl : cl7[ci]? = some (C, T, N)) (hin : ∀ w ∈ u_ws C T N, w ∈ tw) (hf : f < N) (hlk : Cond.fieldLinkNest own index (T f).1 (T f).2.1 (T f).2.2.1 host ∈ nw) (hv : ∀ ad : Nat → Nat, (F ad (μ.1 k) (μ.2 k))[f]? = some (rv ad v)) (d : decode M.2.1 pc = .ok (.getfield index, 3)) (kk : G M rm R μ (pc + 3) lo (v :: st)) : G M rm R μ pc lo (.ref k :: st) := by
  subst ho
  intro γ p l e s m args below meth c C H locs ls hw hl
  exact va_getN (D := γ.2.1) (ci := ci) C.1 C.2.1 C.2.2.2.2.2.1 hin C.2.2.2.2.1 C.2.2.2.2.2.2.2.1.1 hw.1 k (by rw [wd_get hk.1, hk.2]) hcl f hf (va_Nw.use rfl (C.2.2.2.2.2.2.2.1.2 _ hlk)) (fun _ h => h) (hv γ.1) d (kk γ p l e s m args below meth c C H locs ls hw hl)
theorem g_putf {k ci f index N : Nat} {own C : String} {T : u_T} {ty0 : Nat → FieldType} {F : (Nat → Nat) → (Nat → Int32) → (Nat → Int64) → List Value} {v : Value} {μ' : Mm} (ho : M.1.cls = own) (hk : isF k ci F) (hcl : cl7[ci]? = some (C, T, N)) (hin : ∀ w ∈ u_ws C T N, w ∈ tw) (hty : ∀ k, k < N → parseFieldDescriptor (T k).2.2.1 = some (ty0 k)) (hnm : ∀ a, a < N → ∀ b, b < N → a ≠ b → (T a).2.1 ≠ (T b).2.1) (hf : f < N) (hlk : Cond.fieldLink own index (T f).1 (T f).2.1 (T f).2.2.1 ∈ tw) (hfin : (T f).2.2.2 = false) (hn : narrow (ty0 f) v = v) (hfit : fits (ty0 f) v = true) (hr : ∀ ad, rv ad v = v) (hlen : ∀ ad a b, f < (F ad a b).length) (hμ : ∀ k', k' ≠ k → μ'.1 k' = μ.1 k' ∧ μ'.2 k' = μ.2 k') (hu : ∀ ad, F ad (μ'.1 k) (μ'.2 k) = (F ad (μ.1 k) (μ.2 k)).set f v) (d : decode M.2.1 pc = .ok (.putfield index, 3)) (kk : G M rm R μ' (pc + 3) lo st) : G M rm R μ pc lo (v :: .ref k :: st) := by
  subst ho
  intro γ p l e s m args below meth c C H locs ls hw hl
  show W p l e rm s m args below meth c H locs 0 0 _ (F0 m pc ls (rv γ.1 v :: .ref (γ.1 k) :: st.map (rv γ.1)))
  rw [hr]
  refine va_put (D := γ.2.1) (ci := ci) (v := v) (ty := ty0 f) C.1 C.2.1 C.2.2.2.2.2.1 hin ty0 hty hnm C.2.2.2.2.1 C.2.2.2.2.2.2.2.1.1 hw.1 (wd_D C.2.2.2.2.2.2.2.2.1) hw.2 k (by rw [wd_get hk.1, hk.2]) hcl f hf (C.2.2.2.2.2.1 _ hlk) (fun _ h => h) hfin (hty f hf) hn hfit (hlen _ _ _) d (fun H1 locs1 hP _ hS => ?_)
  rw [wd_set (μ' := μ') hμ (by rw [hk.2, hu])] at hP
  exact kk γ p l e s m args below meth c C H1 locs1 ls ⟨hP, hS⟩ hl
theorem g_putN {k ci f index N : Nat} {own C host : String} {T : u_T} {ty0 : Nat → FieldType} {F : (Nat → Nat) → (Nat → Int32) → (Nat → Int64) → List Value} {v : Value} {μ' : Mm} (ho : M.1.cls = own) (hk : isF k ci F) (hcl : cl7[ci]? = some (C, T, N)) (hin : ∀ w ∈ u_ws C T N, w ∈ tw) (hty : ∀ k, k < N → parseFieldDescriptor (T k).2.2.1 = some (ty0 k)) (hnm : ∀ a, a < N → ∀ b, b < N → a ≠ b → (T a).2.1 ≠ (T b).2.1) (hf : f < N) (hlk : Cond.fieldLinkNest own index (T f).1 (T f).2.1 (T f).2.2.1 host ∈ nw) (hfin : (T f).2.2.2 = false) (hn : narrow (ty0 f) v = v) (hfit : fits (ty0 f) v = true) (hr : ∀ ad, rv ad v = v) (hlen : ∀ ad a b, f < (F ad a b).length) (hμ : ∀ k', k' ≠ k → μ'.1 k' = μ.1 k' ∧ μ'.2 k' = μ.2 k') (hu : ∀ ad, F ad (μ'.1 k) (μ'.2 k) = (F ad (μ.1 k) (μ.2 k)).set f v) (d : decode M.2.1 pc = .ok (.putfield index, 3)) (kk : G M rm R μ' (pc + 3) lo st) : G M rm R μ pc lo (v :: .ref k :: st) := by
  subst ho
  intro γ p l e s m args below meth c C H locs ls hw hl
  show W p l e rm s m args below meth c H locs 0 0 _ (F0 m pc ls (rv γ.1 v :: .ref (γ.1 k) :: st.map (rv γ.1)))
  rw [hr]
  refine va_putN (D := γ.2.1) (ci := ci) (v := v) (ty := ty0 f) C.1 C.2.1 C.2.2.2.2.2.1 hin ty0 hty hnm C.2.2.2.2.1 C.2.2.2.2.2.2.2.1.1 hw.1 (wd_D C.2.2.2.2.2.2.2.2.1) hw.2 k (by rw [wd_get hk.1, hk.2]) hcl f hf (va_Nw.use rfl (C.2.2.2.2.2.2.2.1.2 _ hlk)) (fun _ h => h) hfin (hty f hf) hn hfit (hlen _ _ _) d (fun H1 locs1 hP _ hS => ?_)
  rw [wd_set (μ' := μ') hμ (by rw [hk.2, hu])] at hP
  exact kk γ p l e s m args below meth c C H1 locs1 ls ⟨hP, hS⟩ hl
/-! returns -/
theorem g_ireturn {x : Int32} {ty : FieldType} (d : decode M.2.1 pc = .ok (.ireturn, 1)) (hr : M.2.2.2 = some ty) (hn : narrow ty (.int x) = .int x) (hR : R = (some (.int x), μ)) : G M rm R μ pc lo [.int x] := by
  subst hR
  intro γ p l e s m args below meth c C H locs ls hw hl
  have hlocks := C.2.2.2.2.2.2.1
  exact W.zret C.1 C.2.1 (C.2.2.1.trans hr) hn (fun t ht hW => ⟨⟨x, (), rfl, rfl, by show Wp γ μ t.heap; rw [ht]; exact hw.1⟩, hw.2.F ht⟩) hw.2.2.2 d
theorem g_lreturn {x : Int64} (d : decode M.2.1 pc = .ok (.lreturn, 1)) (hr : M.2.2.2 = some .long) (hR : R = (some (.long x), μ)) : G M rm R μ pc lo [.long x] := by
  subst hR
  intro γ p l e s m args below meth c C H locs ls hw hl
  have hlocks := C.2.2.2.2.2.2.1
  exact W.lret C.1 C.2.1 (C.2.2.1.trans hr) (fun t ht hW => ⟨⟨x, (), rfl, rfl, by show Wp γ μ t.heap; rw [ht]; exact hw.1⟩, hw.2.F ht⟩) hw.2.2.2 d
theorem g_return (d : decode M.2.1 pc = .ok (.return_, 1)) (hr : M.2.2.2 = none) (hR : R = (none, μ)) : G M rm R μ pc lo [] := by
  subst hR
  intro γ p l e s m args below meth c C H locs ls hw hl
  have hlocks := C.2.2.2.2.2.2.1
  exact W.vret C.1 C.2.1 (C.2.2.1.trans hr) (fun t ht hW => ⟨⟨(), rfl, trivial, by show Wp γ μ t.heap; rw [ht]; exact hw.1⟩, hw.2.F ht⟩) hw.2.2.2 d
/-! calls -/
theorem Adr_le {ad : Nat → Nat} {a b : Nat} (h : a ≤ b) : ∀ q, Adr ad b q → Adr ad a q := fun q hq => hq.elim Or.inl (fun h2 => Or.inr (Nat.le_trans h h2))
theorem pre_at {γ : Cc} {p : Program} {s : State} {m : MethodId} {args : Array Value} {meth : Method} {c : Code} {H : Heap} {locs : List Loc} (C : Cx γ M p s m args meth c) (hw : Hw γ s H locs μ) : ∀ U : State, U.heap = H → s.WarmedH U.vm → PreW γ H.size μ U := by
  intro U hU hW
  subst hU
  have hz := C.2.2.2.2.2.2.2.2.2
  exact ⟨rfl, hw.1, C.2.2.2.2.2.2.2.1.warm hW, C.2.2.2.2.2.2.2.2.1, ((hz.1.moved hW.alike).kept hw.2.2.1).narrow (Adr_le hw.2.1), ((hz.2.moved hW.alike).kept hw.2.2.1).narrow (Adr_le hw.2.1)⟩
theorem pre_blind {γ : Cc} {as : List Value} {sz : Nat} : FrameBlind (va_Pc as (PreW γ sz μ)) := by
  intro a U g mk q
  obtain ⟨q0, q1, q2, q3, q4, q5⟩ := q
  exact ⟨q0, q1, q2, q3.same rfl, q4, q5.1.moved (Vm.Alike.refl U.vm), q5.2.moved (Vm.Alike.refl U.vm)⟩
/-- the run of a call -/
def Rn (M : Mb) (rm : Room) (μ : Mm) (pc : Nat) (lo : List (Option Value)) (stk st : List Value) (R1 : Option Value × Mm) : Prop := ∀ (γ : Cc) (p : Program) (l : Launch) (e : Env) (s : State) (m : MethodId) (args : Array Value) (below : List Frame) (meth : Method) (c : Code), Cx γ M p s m args meth c → ∀ (H : Heap) (locs : List Loc) (ls : Array Slot), Hw γ s H locs μ → Lo γ ls M.2.2.1 lo →
    ∃ a, va_Run p l e rm s m args below meth c H locs 0 0 0 0 (F0 m pc ls (stk.map (rv γ.1))) (st.map (rv γ.1)) (QR γ R1 H.size a) (Adr γ.1 H.size)
theorem g_backi {x : Int32} {μ' : Mm} {stk : List Value} (hr : Rn M rm μ pc lo stk st (some (.int x), μ')) (k : G M rm R μ' (pc + 3) lo (.int x :: st)) : G M rm R μ pc lo stk := by
  intro γ p l e s m args below meth c C H locs ls hw hl
  obtain ⟨a, h⟩ := hr γ p l e s m args below meth c C H locs ls hw hl
  refine va_calli (a := a) h hw.2 (fun q _ h => Adr_le hw.2.1 q h) (Adr_le hw.2.1) (fun r u t H1 locs1 ht hvm hp hB hz1 hk1 hS => ?_)
  subst hp
  subst ht
  exact k γ p l e s m args below meth c C t.heap locs1 ls ⟨hB, hS⟩ hl
theorem g_backl {x : Int64} {μ' : Mm} {stk : List Value} (hr : Rn M rm μ pc lo stk st (some (.long x), μ')) (k : G M rm R μ' (pc + 3) lo (.long x :: st)) : G M rm R μ pc lo stk := by
  intro γ p l e s m args below meth c C H locs ls hw hl
  obtain ⟨a, h⟩ := hr γ p l e s m args below meth c C H locs ls hw hl
  refine va_calll (a := a) h hw.2 (fun q _ h => Adr_le hw.2.1 q h) (Adr_le hw.2.1) (fun r u t H1 locs1 ht hvm hp hB hz1 hk1 hS => ?_)
  subst hp
  subst ht
  exact k γ p l e s m args below meth c C t.heap locs1 ls ⟨hB, hS⟩ hl
theorem g_backv {μ' : Mm} {stk : List Value} (hr : Rn M rm μ pc lo stk st (none, μ')) (k : G M rm R μ' (pc + 3) lo st) : G M rm R μ pc lo stk := by
  intro γ p l e s m args below meth c C H locs ls hw hl
  obtain ⟨a, h⟩ := hr γ p l e s m args below meth c C H locs ls hw hl
  refine va_callv (a := a) h hw.2 (fun q _ h => Adr_le hw.2.1 q h) (Adr_le hw.2.1) (fun u t H1 locs1 ht hvm hp hB hz1 hk1 hS => ?_)
  subst ht
  exact k γ p l e s m args below meth c C t.heap locs1 ls ⟨hB, hS⟩ hl
/-- a method's words: its code, its class ready, how many parameters -/
def Mw (Mc : Mb) (n : Nat) : Prop := Cond.code Mc.1 Mc.2.1 Mc.2.2.1 Mc.2.2.2 ∈ tw ∧ Cond.initialized Mc.1.cls ∈ tw ∧ (Mc.1.cls ≠ "java/lang/invoke/MethodHandle" ∧ Mc.1.cls ≠ "java/lang/invoke/VarHandle" ∧ (parseMethodDescriptor Mc.1.desc).map (fun d => d.parameters.length) = some n)
def Mi (Mc : Mb) : Prop := Cond.instanceMethod Mc.1 ∈ tw ∧ Cond.selects Mc.1.cls Mc.1 Mc.1 ∈ tw
def isO (o : Nat) (cls : String) : Prop := ∃ (ci : Nat) (F : (Nat → Nat) → (Nat → Int32) → (Nat → Int64) → List Value) (q : vw_C), isF o ci F ∧ cl7[ci]? = some q ∧ q.1 = cls
def Fits (rmc rm : Room) (n : Nat) : Prop := rmc.cells = 0 ∧ rmc.slots = 0 ∧ rmc.frames + 1 ≤ rm.frames ∧ 8 + (n + 11) + rmc.locals ≤ rm.locals
theorem tw_in {Mc : Mb} (h : Cond.code Mc.1 Mc.2.1 Mc.2.2.1 Mc.2.2.2 ∈ tw) : GoodIn tw (wsM Mc) := fun w hw => by
  have hm : w ∈ tw := (List.mem_cons.mp hw).elim (fun e => e ▸ h) id
  exact ⟨hm, tw_good w hm⟩
theorem rv_cats (ad : Nat → Nat) (st : List Value) : ((st.map (rv ad)).map fun v => v.category) = st.map fun v => v.category := by
  rw [List.map_map]; exact List.map_congr_left (fun v _ => rv_cat ad v)
theorem g_runV {Mc : Mb} {rmc : Room} {as : List Value} {o n index : Nat} {R1 : Option Value × Mm} {stk : List Value} {own : String} (hM : Ok Mc rmc (.ref o :: as) μ R1) (ho : M.1.cls = own) (hm : Mw Mc n) (hi : Mi Mc) (hlk : Cond.methodLink own index Mc.1 ∈ tw) (hO : isO o Mc.1.cls) (hF : Fits rmc rm Mc.2.2.1) (hn : as.length = n) (hst : stk = as.reverse ++ .ref o :: st) (hc : (st.map fun v => v.category).sum ≤ 8) (d : decode M.2.1 pc = .ok (.invokevirtual index, 3)) : Rn M rm μ pc lo stk st R1 := by
  subst ho
  subst hst
  intro γ p l e s m args below meth c C H locs ls hw hl
  obtain ⟨ci, F, q, hk, hcl, hq⟩ := hO
  refine ⟨_, va_runV (As := as.map (rv γ.1)) (C := Mc.1.cls) (nL := M.2.2.1) ⟨C.1, C.2.1, C.2.2.2.1, C.2.2.2.2.1, C.2.2.2.2.2.1⟩ (hM γ l H.size) ⟨callB_of n C.2.2.2.2.2.1 (tw_in hm.1) rfl hF.1 hF.2.1 (C.2.2.2.2.2.1 _ hm.2.1) (C.2.2.2.2.2.1 _ hlk) hm.2.2 hF.2.2, C.2.2.2.2.2.1 _ hi.1, C.2.2.2.2.2.1 _ hi.2⟩ ⟨pre_blind, ?_, fun U hU hW => ⟨rfl, pre_at C hw U hU hW⟩⟩ rfl (by rw [List.length_map]; exact hn) hl.1 (by simp [List.map_append, List.map_reverse, rv]) (by rw [← rv_cats γ.1] at hc; exact lv_room hc) d ⟨Nat.zero_le _, Nat.zero_le _⟩⟩
  have h := va_recv (q0 := o) C.2.2.2.2.2.2.2.1.1 hw.1 hcl (by rw [wd_get hk.1, hk.2])
  rw [hq] at h
  exact h
theorem g_runVN {Mc : Mb} {rmc : Room} {as : List Value} {o n index : Nat} {R1 : Option Value × Mm} {stk : List Value} {own host : String} (hM : Ok Mc rmc (.ref o :: as) μ R1) (ho : M.1.cls = own) (hm : Mw Mc n) (hi : Mi Mc) (hlk : Cond.methodLinkNest own index Mc.1 host ∈ nw) (hO : isO o Mc.1.cls) (hF : Fits rmc rm Mc.2.2.1) (hn : as.length = n) (hst : stk = as.reverse ++ .ref o :: st) (hc : (st.map fun v => v.category).sum ≤ 8) (d : decode M.2.1 pc = .ok (.invokevirtual index, 3)) : Rn M rm μ pc lo stk st R1 := by
  subst ho
  subst hst
  intro γ p l e s m args below meth c C H locs ls hw hl
  obtain ⟨ci, F, q, hk, hcl, hq⟩ := hO
  refine ⟨_, va_runVN (As := as.map (rv γ.1)) (C := Mc.1.cls) (nL := M.2.2.1) ⟨C.1, C.2.1, C.2.2.2.1, C.2.2.2.2.1, C.2.2.2.2.2.1⟩ (hM γ l H.size) ⟨va_cnB n C.2.2.2.2.2.1 (tw_in hm.1) rfl hF.1 hF.2.1 (C.2.2.2.2.2.2.2.1.2 _ hlk) (C.2.2.2.2.2.1 _ hm.2.1) hm.2.2 hF.2.2, C.2.2.2.2.2.1 _ hi.1, C.2.2.2.2.2.1 _ hi.2⟩ ⟨pre_blind, ?_, fun U hU hW => ⟨rfl, pre_at C hw U hU hW⟩⟩ rfl (by rw [List.length_map]; exact hn) hl.1 (by simp [List.map_append, List.map_reverse, rv]) (by rw [← rv_cats γ.1] at hc; exact lv_room hc) d ⟨Nat.zero_le _, Nat.zero_le _⟩⟩
  have h := va_recv (q0 := o) C.2.2.2.2.2.2.2.1.1 hw.1 hcl (by rw [wd_get hk.1, hk.2])
  rw [hq] at h
  exact h
theorem g_runS {Mc : Mb} {rmc : Room} {as : List Value} {n index : Nat} {R1 : Option Value × Mm} {stk : List Value} {own : String} (hM : Ok Mc rmc as μ R1) (ho : M.1.cls = own) (hm : Mw Mc n) (hi : Cond.static Mc.1 ∈ tw) (hlk : Cond.methodLink own index Mc.1 ∈ tw) (hF : Fits rmc rm Mc.2.2.1) (hn : as.length = n) (hst : stk = as.reverse ++ st) (hc : (st.map fun v => v.category).sum ≤ 8) (d : decode M.2.1 pc = .ok (.invokestatic index, 3)) : Rn M rm μ pc lo stk st R1 := by
  subst ho
  subst hst
  intro γ p l e s m args below meth c C H locs ls hw hl
  exact ⟨_, va_runS (As := as.map (rv γ.1)) (nL := M.2.2.1) ⟨C.1, C.2.1, C.2.2.2.1, C.2.2.2.2.1, C.2.2.2.2.2.1⟩ (hM γ l H.size) ⟨callB_of n C.2.2.2.2.2.1 (tw_in hm.1) rfl hF.1 hF.2.1 (C.2.2.2.2.2.1 _ hm.2.1) (C.2.2.2.2.2.1 _ hlk) hm.2.2 hF.2.2, C.2.2.2.2.2.1 _ hi⟩ ⟨pre_blind, fun U hU hW => ⟨rfl, pre_at C hw U hU hW⟩⟩ rfl (by rw [List.length_map]; exact hn) hl.1 (by simp [List.map_append, List.map_reverse]) (by rw [← rv_cats γ.1] at hc; exact lv_room hc) d ⟨Nat.zero_le _, Nat.zero_le _⟩⟩
theorem g_runSN {Mc : Mb} {rmc : Room} {as : List Value} {n index : Nat} {R1 : Option Value × Mm} {stk : List Value} {own host : String} (hM : Ok Mc rmc as μ R1) (ho : M.1.cls = own) (hm : Mw Mc n) (hi : Cond.static Mc.1 ∈ tw) (hlk : Cond.methodLinkNest own index Mc.1 host ∈ nw) (hF : Fits rmc rm Mc.2.2.1) (hn : as.length = n) (hst : stk = as.reverse ++ st) (hc : (st.map fun v => v.category).sum ≤ 8) (d : decode M.2.1 pc = .ok (.invokestatic index, 3)) : Rn M rm μ pc lo stk st R1 := by
  subst ho
  subst hst
  intro γ p l e s m args below meth c C H locs ls hw hl
  exact ⟨_, va_runSN (As := as.map (rv γ.1)) (nL := M.2.2.1) ⟨C.1, C.2.1, C.2.2.2.1, C.2.2.2.2.1, C.2.2.2.2.2.1⟩ (hM γ l H.size) ⟨va_cnB n C.2.2.2.2.2.1 (tw_in hm.1) rfl hF.1 hF.2.1 (C.2.2.2.2.2.2.2.1.2 _ hlk) (C.2.2.2.2.2.1 _ hm.2.1) hm.2.2 hF.2.2, C.2.2.2.2.2.1 _ hi, trivial⟩ ⟨pre_blind, fun U hU hW => ⟨rfl, pre_at C hw U hU hW⟩⟩ rfl (by rw [List.length_map]; exact hn) hl.1 (by simp [List.map_append, List.map_reverse]) (by rw [← rv_cats γ.1] at hc; exact lv_room hc) d ⟨Nat.zero_le _, Nat.zero_le _⟩⟩
end
end
section
theorem tw_i {w : Cond} (i : Nat) (h : lw_tbl[i]? = some w) (hg : goodWord w = true) : w ∈ tw := List.mem_filter.mpr ⟨List.mem_of_getElem? h, hg⟩
theorem nw_i {w : Cond} (i : Nat) (h : lw_tbl[i]? = some w) (hg : isNs w = true) : w ∈ nw := List.mem_filter.mpr ⟨List.mem_of_getElem? h, hg⟩
abbrev rmd (f l : Nat) : Room := { frames := f, cells := 0, slots := 0, locals := l }
theorem ti_X5 : Cond.initialized RX5 ∈ tw := tw_i 66 (by decide +kernel) (by decide +kernel)
theorem ti_X0 : Cond.initialized RX0 ∈ tw := tw_i 71 (by decide +kernel) (by decide +kernel)
theorem ti_X1 : Cond.initialized RX1 ∈ tw := tw_i 67 (by decide +kernel) (by decide +kernel)
theorem ti_X2 : Cond.initialized RX2 ∈ tw := tw_i 70 (by decide +kernel) (by decide +kernel)
theorem ti_X3 : Cond.initialized RX3 ∈ tw := tw_i 68 (by decide +kernel) (by decide +kernel)
theorem ti_X4 : Cond.initialized RX4 ∈ tw := tw_i 69 (by decide +kernel) (by decide +kernel)
theorem ti_L : Cond.initialized RL ∈ tw := tw_i 65 (by decide +kernel) (by decide +kernel)
theorem ti_X6 : Cond.initialized RX6 ∈ tw := tw_i 72 (by decide +kernel) (by decide +kernel)
theorem ti_java_lang_Exception : Cond.initialized "java/lang/Exception" ∈ tw := tw_i 75 (by decide +kernel) (by decide +kernel)
theorem ti_J6 : Cond.initialized RJ6 ∈ tw := tw_i 80 (by decide +kernel) (by decide +kernel)
theorem ti_J9 : Cond.initialized RJ9 ∈ tw := tw_i 78 (by decide +kernel) (by decide +kernel)
theorem ti_java_lang_RuntimeException : Cond.initialized "java/lang/RuntimeException" ∈ tw := tw_i 76 (by decide +kernel) (by decide +kernel)
theorem ti_J10 : Cond.initialized RJ10 ∈ tw := tw_i 79 (by decide +kernel) (by decide +kernel)
theorem ti_java_lang_Throwable : Cond.initialized "java/lang/Throwable" ∈ tw := tw_i 74 (by decide +kernel) (by decide +kernel)
theorem ti_J7 : Cond.initialized RJ7 ∈ tw := tw_i 73 (by decide +kernel) (by decide +kernel)
theorem ti_java_util_NoSuchElementException : Cond.initialized "java/util/NoSuchElementException" ∈ tw := tw_i 77 (by decide +kernel) (by decide +kernel)
abbrev mX0_has : Mb := (yX0_has, cX0_has, 2, (some .boolean))
set_option maxRecDepth 100000 in
theorem tc_X0_has : Cond.code yX0_has cX0_has 2 (some .boolean) ∈ tw := tw_i 587 rfl rfl
theorem mw_X0_has : Mw mX0_has 1 := ⟨tc_X0_has, ti_X0, by decide +kernel, by decide +kernel, by decide +kernel⟩
theorem tn_X0_has : Cond.instanceMethod yX0_has ∈ tw := tw_i 586 (by decide +kernel) (by decide +kernel)
theorem ts_X0_has : Cond.selects RX0 yX0_has yX0_has ∈ tw := tw_i 43 (by decide +kernel) (by decide +kernel)
theorem mi_X0_has : Mi mX0_has := ⟨tn_X0_has, ts_X0_has⟩
abbrev mX0_makeDoubled : Mb := (yX0_makeDoubled, cX0_makeDoubled, 4, none)
set_option maxRecDepth 100000 in
theorem tc_X0_makeDoubled : Cond.code yX0_makeDoubled cX0_makeDoubled 4 none ∈ tw := tw_i 558 rfl rfl
theorem mw_X0_makeDoubled : Mw mX0_makeDoubled 1 := ⟨tc_X0_makeDoubled, ti_X0, by decide +kernel, by decide +kernel, by decide +kernel⟩
theorem tn_X0_makeDoubled : Cond.instanceMethod yX0_makeDoubled ∈ tw := tw_i 557 (by decide +kernel) (by decide +kernel)
theorem ts_X0_makeDoubled : Cond.selects RX0 yX0_makeDoubled yX0_makeDoubled ∈ tw := tw_i 39 (by decide +kernel) (by decide +kernel)
theorem mi_X0_makeDoubled : Mi mX0_makeDoubled := ⟨tn_X0_makeDoubled, ts_X0_makeDoubled⟩
abbrev mX0_makeByRests : Mb := (yX0_makeByRests, cX0_makeByRests, 4, none)
set_option maxRecDepth 100000 in
theorem tc_X0_makeByRests : Cond.code yX0_makeByRests cX0_makeByRests 4 none ∈ tw := tw_i 563 rfl rfl
theorem mw_X0_makeByRests : Mw mX0_makeByRests 1 := ⟨tc_X0_makeByRests, ti_X0, by decide +kernel, by decide +kernel, by decide +kernel⟩
theorem tn_X0_makeByRests : Cond.instanceMethod yX0_makeByRests ∈ tw := tw_i 562 (by decide +kernel) (by decide +kernel)
theorem ts_X0_makeByRests : Cond.selects RX0 yX0_makeByRests yX0_makeByRests ∈ tw := tw_i 40 (by decide +kernel) (by decide +kernel)
theorem mi_X0_makeByRests : Mi mX0_makeByRests := ⟨tn_X0_makeByRests, ts_X0_makeByRests⟩
abbrev mX0_doubleUp : Mb := (yX0_doubleUp, cX0_doubleUp, 4, none)
set_option maxRecDepth 100000 in
theorem tc_X0_doubleUp : Cond.code yX0_doubleUp cX0_doubleUp 4 none ∈ tw := tw_i 572 rfl rfl
theorem mw_X0_doubleUp : Mw mX0_doubleUp 0 := ⟨tc_X0_doubleUp, ti_X0, by decide +kernel, by decide +kernel, by decide +kernel⟩
theorem tn_X0_doubleUp : Cond.instanceMethod yX0_doubleUp ∈ tw := tw_i 571 (by decide +kernel) (by decide +kernel)
theorem ts_X0_doubleUp : Cond.selects RX0 yX0_doubleUp yX0_doubleUp ∈ tw := tw_i 41 (by decide +kernel) (by decide +kernel)
theorem mi_X0_doubleUp : Mi mX0_doubleUp := ⟨tn_X0_doubleUp, ts_X0_doubleUp⟩
abbrev mX0_allColumns : Mb := (yX0_allColumns, cX0_allColumns, 1, (some .int))
set_option maxRecDepth 100000 in
theorem tc_X0_allColumns : Cond.code yX0_allColumns cX0_allColumns 1 (some .int) ∈ tw := tw_i 575 rfl rfl
theorem mw_X0_allColumns : Mw mX0_allColumns 1 := ⟨tc_X0_allColumns, ti_X0, by decide +kernel, by decide +kernel, by decide +kernel⟩
theorem ms_X0_allColumns : Cond.static yX0_allColumns ∈ tw := tw_i 574 (by decide +kernel) (by decide +kernel)
abbrev mX0_swapRows : Mb := (yX0_swapRows, cX0_swapRows, 4, none)
set_option maxRecDepth 100000 in
theorem tc_X0_swapRows : Cond.code yX0_swapRows cX0_swapRows 4 none ∈ tw := tw_i 591 rfl rfl
theorem mw_X0_swapRows : Mw mX0_swapRows 2 := ⟨tc_X0_swapRows, ti_X0, by decide +kernel, by decide +kernel, by decide +kernel⟩
theorem tn_X0_swapRows : Cond.instanceMethod yX0_swapRows ∈ tw := tw_i 590 (by decide +kernel) (by decide +kernel)
theorem ts_X0_swapRows : Cond.selects RX0 yX0_swapRows yX0_swapRows ∈ tw := tw_i 44 (by decide +kernel) (by decide +kernel)
theorem mi_X0_swapRows : Mi mX0_swapRows := ⟨tn_X0_swapRows, ts_X0_swapRows⟩
abbrev mX0_signAt : Mb := (yX0_signAt, cX0_signAt, 3, (some .int))
set_option maxRecDepth 100000 in
theorem tc_X0_signAt : Cond.code yX0_signAt cX0_signAt 3 (some .int) ∈ tw := tw_i 599 rfl rfl
theorem mw_X0_signAt : Mw mX0_signAt 2 := ⟨tc_X0_signAt, ti_X0, by decide +kernel, by decide +kernel, by decide +kernel⟩
theorem tn_X0_signAt : Cond.instanceMethod yX0_signAt ∈ tw := tw_i 598 (by decide +kernel) (by decide +kernel)
theorem ts_X0_signAt : Cond.selects RX0 yX0_signAt yX0_signAt ∈ tw := tw_i 45 (by decide +kernel) (by decide +kernel)
theorem mi_X0_signAt : Mi mX0_signAt := ⟨tn_X0_signAt, ts_X0_signAt⟩
abbrev mX0_rowProduct : Mb := (yX0_rowProduct, cX0_rowProduct, 3, (some .int))
set_option maxRecDepth 100000 in
theorem tc_X0_rowProduct : Cond.code yX0_rowProduct cX0_rowProduct 3 (some .int) ∈ tw := tw_i 607 rfl rfl
theorem mw_X0_rowProduct : Mw mX0_rowProduct 2 := ⟨tc_X0_rowProduct, ti_X0, by decide +kernel, by decide +kernel, by decide +kernel⟩
theorem tn_X0_rowProduct : Cond.instanceMethod yX0_rowProduct ∈ tw := tw_i 606 (by decide +kernel) (by decide +kernel)
theorem ts_X0_rowProduct : Cond.selects RX0 yX0_rowProduct yX0_rowProduct ∈ tw := tw_i 46 (by decide +kernel) (by decide +kernel)
theorem mi_X0_rowProduct : Mi mX0_rowProduct := ⟨tn_X0_rowProduct, ts_X0_rowProduct⟩
abbrev mX1_isRow : Mb := (yX1_isRow, cX1_isRow, 1, (some .boolean))
set_option maxRecDepth 100000 in
theorem tc_X1_isRow : Cond.code yX1_isRow cX1_isRow 1 (some .boolean) ∈ tw := tw_i 258 rfl rfl
theorem mw_X1_isRow : Mw mX1_isRow 1 := ⟨tc_X1_isRow, ti_X1, by decide +kernel, by decide +kernel, by decide +kernel⟩
theorem ms_X1_isRow : Cond.static yX1_isRow ∈ tw := tw_i 257 (by decide +kernel) (by decide +kernel)
abbrev mX1_fits : Mb := (yX1_fits, cX1_fits, 2, (some .boolean))
set_option maxRecDepth 100000 in
theorem tc_X1_fits : Cond.code yX1_fits cX1_fits 2 (some .boolean) ∈ tw := tw_i 265 rfl rfl
theorem mw_X1_fits : Mw mX1_fits 2 := ⟨tc_X1_fits, ti_X1, by decide +kernel, by decide +kernel, by decide +kernel⟩
theorem ms_X1_fits : Cond.static yX1_fits ∈ tw := tw_i 264 (by decide +kernel) (by decide +kernel)
abbrev mX1_start : Mb := (yX1_start, cX1_start, 3, none)
set_option maxRecDepth 100000 in
theorem tc_X1_start : Cond.code yX1_start cX1_start 3 none ∈ tw := tw_i 224 rfl rfl
theorem mw_X1_start : Mw mX1_start 1 := ⟨tc_X1_start, ti_X1, by decide +kernel, by decide +kernel, by decide +kernel⟩
theorem tn_X1_start : Cond.instanceMethod yX1_start ∈ tw := tw_i 223 (by decide +kernel) (by decide +kernel)
theorem ts_X1_start : Cond.selects RX1 yX1_start yX1_start ∈ tw := tw_i 2 (by decide +kernel) (by decide +kernel)
theorem mi_X1_start : Mi mX1_start := ⟨tn_X1_start, ts_X1_start⟩
abbrev mX1_has : Mb := (yX1_has, cX1_has, 2, (some .boolean))
set_option maxRecDepth 100000 in
theorem tc_X1_has : Cond.code yX1_has cX1_has 2 (some .boolean) ∈ tw := tw_i 287 rfl rfl
theorem mw_X1_has : Mw mX1_has 1 := ⟨tc_X1_has, ti_X1, by decide +kernel, by decide +kernel, by decide +kernel⟩
theorem tn_X1_has : Cond.instanceMethod yX1_has ∈ tw := tw_i 286 (by decide +kernel) (by decide +kernel)
theorem ts_X1_has : Cond.selects RX1 yX1_has yX1_has ∈ tw := tw_i 10 (by decide +kernel) (by decide +kernel)
theorem mi_X1_has : Mi mX1_has := ⟨tn_X1_has, ts_X1_has⟩
abbrev mX1_get : Mb := (yX1_get, cX1_get, 3, (some .int))
set_option maxRecDepth 100000 in
theorem tc_X1_get : Cond.code yX1_get cX1_get 3 (some .int) ∈ tw := tw_i 359 rfl rfl
theorem mw_X1_get : Mw mX1_get 2 := ⟨tc_X1_get, ti_X1, by decide +kernel, by decide +kernel, by decide +kernel⟩
theorem tn_X1_get : Cond.instanceMethod yX1_get ∈ tw := tw_i 358 (by decide +kernel) (by decide +kernel)
theorem ts_X1_get : Cond.selects RX1 yX1_get yX1_get ∈ tw := tw_i 18 (by decide +kernel) (by decide +kernel)
theorem mi_X1_get : Mi mX1_get := ⟨tn_X1_get, ts_X1_get⟩
abbrev mX1_put : Mb := (yX1_put, cX1_put, 4, none)
set_option maxRecDepth 100000 in
theorem tc_X1_put : Cond.code yX1_put cX1_put 4 none ∈ tw := tw_i 271 rfl rfl
theorem mw_X1_put : Mw mX1_put 3 := ⟨tc_X1_put, ti_X1, by decide +kernel, by decide +kernel, by decide +kernel⟩
theorem tn_X1_put : Cond.instanceMethod yX1_put ∈ tw := tw_i 270 (by decide +kernel) (by decide +kernel)
theorem ts_X1_put : Cond.selects RX1 yX1_put yX1_put ∈ tw := tw_i 7 (by decide +kernel) (by decide +kernel)
theorem mi_X1_put : Mi mX1_put := ⟨tn_X1_put, ts_X1_put⟩
abbrev mX1_wrap : Mb := (yX1_wrap, cX1_wrap, 2, (some .int))
set_option maxRecDepth 100000 in
theorem tc_X1_wrap : Cond.code yX1_wrap cX1_wrap 2 (some .int) ∈ tw := tw_i 316 rfl rfl
theorem mw_X1_wrap : Mw mX1_wrap 1 := ⟨tc_X1_wrap, ti_X1, by decide +kernel, by decide +kernel, by decide +kernel⟩
theorem tn_X1_wrap : Cond.instanceMethod yX1_wrap ∈ tw := tw_i 315 (by decide +kernel) (by decide +kernel)
theorem ts_X1_wrap : Cond.selects RX1 yX1_wrap yX1_wrap ∈ tw := tw_i 15 (by decide +kernel) (by decide +kernel)
theorem mi_X1_wrap : Mi mX1_wrap := ⟨tn_X1_wrap, ts_X1_wrap⟩
abbrev mX1_tally : Mb := (yX1_tally, cX1_tally, 5, (some .int))
set_option maxRecDepth 100000 in
theorem tc_X1_tally : Cond.code yX1_tally cX1_tally 5 (some .int) ∈ tw := tw_i 300 rfl rfl
theorem mw_X1_tally : Mw mX1_tally 2 := ⟨tc_X1_tally, ti_X1, by decide +kernel, by decide +kernel, by decide +kernel⟩
theorem tn_X1_tally : Cond.instanceMethod yX1_tally ∈ tw := tw_i 299 (by decide +kernel) (by decide +kernel)
theorem ts_X1_tally : Cond.selects RX1 yX1_tally yX1_tally ∈ tw := tw_i 11 (by decide +kernel) (by decide +kernel)
theorem mi_X1_tally : Mi mX1_tally := ⟨tn_X1_tally, ts_X1_tally⟩
abbrev mX1_share : Mb := (yX1_share, cX1_share, 3, (some .int))
set_option maxRecDepth 100000 in
theorem tc_X1_share : Cond.code yX1_share cX1_share 3 (some .int) ∈ tw := tw_i 440 rfl rfl
theorem mw_X1_share : Mw mX1_share 2 := ⟨tc_X1_share, ti_X1, by decide +kernel, by decide +kernel, by decide +kernel⟩
theorem tn_X1_share : Cond.instanceMethod yX1_share ∈ tw := tw_i 439 (by decide +kernel) (by decide +kernel)
theorem ts_X1_share : Cond.selects RX1 yX1_share yX1_share ∈ tw := tw_i 24 (by decide +kernel) (by decide +kernel)
theorem mi_X1_share : Mi mX1_share := ⟨tn_X1_share, ts_X1_share⟩
abbrev mX1_shadowAt : Mb := (yX1_shadowAt, cX1_shadowAt, 2, (some .int))
set_option maxRecDepth 100000 in
theorem tc_X1_shadowAt : Cond.code yX1_shadowAt cX1_shadowAt 2 (some .int) ∈ tw := tw_i 324 rfl rfl
theorem mw_X1_shadowAt : Mw mX1_shadowAt 1 := ⟨tc_X1_shadowAt, ti_X1, by decide +kernel, by decide +kernel, by decide +kernel⟩
theorem tn_X1_shadowAt : Cond.instanceMethod yX1_shadowAt ∈ tw := tw_i 323 (by decide +kernel) (by decide +kernel)
theorem ts_X1_shadowAt : Cond.selects RX1 yX1_shadowAt yX1_shadowAt ∈ tw := tw_i 16 (by decide +kernel) (by decide +kernel)
theorem mi_X1_shadowAt : Mi mX1_shadowAt := ⟨tn_X1_shadowAt, ts_X1_shadowAt⟩
abbrev mX1_meetsAt : Mb := (yX1_meetsAt, cX1_meetsAt, 2, (some .int))
set_option maxRecDepth 100000 in
theorem tc_X1_meetsAt : Cond.code yX1_meetsAt cX1_meetsAt 2 (some .int) ∈ tw := tw_i 308 rfl rfl
theorem mw_X1_meetsAt : Mw mX1_meetsAt 1 := ⟨tc_X1_meetsAt, ti_X1, by decide +kernel, by decide +kernel, by decide +kernel⟩
theorem tn_X1_meetsAt : Cond.instanceMethod yX1_meetsAt ∈ tw := tw_i 307 (by decide +kernel) (by decide +kernel)
theorem ts_X1_meetsAt : Cond.selects RX1 yX1_meetsAt yX1_meetsAt ∈ tw := tw_i 13 (by decide +kernel) (by decide +kernel)
theorem mi_X1_meetsAt : Mi mX1_meetsAt := ⟨tn_X1_meetsAt, ts_X1_meetsAt⟩
abbrev mX1_throughMask : Mb := (yX1_throughMask, cX1_throughMask, 5, (some .int))
set_option maxRecDepth 100000 in
theorem tc_X1_throughMask : Cond.code yX1_throughMask cX1_throughMask 5 (some .int) ∈ tw := tw_i 312 rfl rfl
theorem mw_X1_throughMask : Mw mX1_throughMask 2 := ⟨tc_X1_throughMask, ti_X1, by decide +kernel, by decide +kernel, by decide +kernel⟩
theorem tn_X1_throughMask : Cond.instanceMethod yX1_throughMask ∈ tw := tw_i 311 (by decide +kernel) (by decide +kernel)
theorem ts_X1_throughMask : Cond.selects RX1 yX1_throughMask yX1_throughMask ∈ tw := tw_i 14 (by decide +kernel) (by decide +kernel)
theorem mi_X1_throughMask : Mi mX1_throughMask := ⟨tn_X1_throughMask, ts_X1_throughMask⟩
abbrev mX1_firstOff : Mb := (yX1_firstOff, cX1_firstOff, 2, (some .int))
set_option maxRecDepth 100000 in
theorem tc_X1_firstOff : Cond.code yX1_firstOff cX1_firstOff 2 (some .int) ∈ tw := tw_i 304 rfl rfl
theorem mw_X1_firstOff : Mw mX1_firstOff 0 := ⟨tc_X1_firstOff, ti_X1, by decide +kernel, by decide +kernel, by decide +kernel⟩
theorem tn_X1_firstOff : Cond.instanceMethod yX1_firstOff ∈ tw := tw_i 303 (by decide +kernel) (by decide +kernel)
theorem ts_X1_firstOff : Cond.selects RX1 yX1_firstOff yX1_firstOff ∈ tw := tw_i 12 (by decide +kernel) (by decide +kernel)
theorem mi_X1_firstOff : Mi mX1_firstOff := ⟨tn_X1_firstOff, ts_X1_firstOff⟩
abbrev mX1_turnMask : Mb := (yX1_turnMask, cX1_turnMask, 4, none)
set_option maxRecDepth 100000 in
theorem tc_X1_turnMask : Cond.code yX1_turnMask cX1_turnMask 4 none ∈ tw := tw_i 345 rfl rfl
theorem mw_X1_turnMask : Mw mX1_turnMask 1 := ⟨tc_X1_turnMask, ti_X1, by decide +kernel, by decide +kernel, by decide +kernel⟩
theorem tn_X1_turnMask : Cond.instanceMethod yX1_turnMask ∈ tw := tw_i 344 (by decide +kernel) (by decide +kernel)
theorem ts_X1_turnMask : Cond.selects RX1 yX1_turnMask yX1_turnMask ∈ tw := tw_i 17 (by decide +kernel) (by decide +kernel)
theorem mi_X1_turnMask : Mi mX1_turnMask := ⟨tn_X1_turnMask, ts_X1_turnMask⟩
abbrev mX2_search : Mb := (yX2_search, cX2_search, 5, none)
set_option maxRecDepth 100000 in
theorem tc_X2_search : Cond.code yX2_search cX2_search 5 none ∈ tw := tw_i 510 rfl rfl
theorem mw_X2_search : Mw mX2_search 2 := ⟨tc_X2_search, ti_X2, by decide +kernel, by decide +kernel, by decide +kernel⟩
theorem tn_X2_search : Cond.instanceMethod yX2_search ∈ tw := tw_i 509 (by decide +kernel) (by decide +kernel)
theorem ts_X2_search : Cond.selects RX2 yX2_search yX2_search ∈ tw := tw_i 32 (by decide +kernel) (by decide +kernel)
theorem mi_X2_search : Mi mX2_search := ⟨tn_X2_search, ts_X2_search⟩
abbrev mX2_searchPairs : Mb := (yX2_searchPairs, cX2_searchPairs, 6, none)
set_option maxRecDepth 100000 in
theorem tc_X2_searchPairs : Cond.code yX2_searchPairs cX2_searchPairs 6 none ∈ tw := tw_i 538 rfl rfl
theorem mw_X2_searchPairs : Mw mX2_searchPairs 3 := ⟨tc_X2_searchPairs, ti_X2, by decide +kernel, by decide +kernel, by decide +kernel⟩
theorem tn_X2_searchPairs : Cond.instanceMethod yX2_searchPairs ∈ tw := tw_i 537 (by decide +kernel) (by decide +kernel)
theorem ts_X2_searchPairs : Cond.selects RX2 yX2_searchPairs yX2_searchPairs ∈ tw := tw_i 36 (by decide +kernel) (by decide +kernel)
theorem mi_X2_searchPairs : Mi mX2_searchPairs := ⟨tn_X2_searchPairs, ts_X2_searchPairs⟩
abbrev mX2_openWindows : Mb := (yX2_openWindows, cX2_openWindows, 13, none)
set_option maxRecDepth 100000 in
theorem tc_X2_openWindows : Cond.code yX2_openWindows cX2_openWindows 13 none ∈ tw := tw_i 514 rfl rfl
theorem mw_X2_openWindows : Mw mX2_openWindows 4 := ⟨tc_X2_openWindows, ti_X2, by decide +kernel, by decide +kernel, by decide +kernel⟩
theorem tn_X2_openWindows : Cond.instanceMethod yX2_openWindows ∈ tw := tw_i 513 (by decide +kernel) (by decide +kernel)
theorem ts_X2_openWindows : Cond.selects RX2 yX2_openWindows yX2_openWindows ∈ tw := tw_i 33 (by decide +kernel) (by decide +kernel)
theorem mi_X2_openWindows : Mi mX2_openWindows := ⟨tn_X2_openWindows, ts_X2_openWindows⟩
abbrev mX2_holds : Mb := (yX2_holds, cX2_holds, 3, (some .boolean))
set_option maxRecDepth 100000 in
theorem tc_X2_holds : Cond.code yX2_holds cX2_holds 3 (some .boolean) ∈ tw := tw_i 530 rfl rfl
theorem mw_X2_holds : Mw mX2_holds 2 := ⟨tc_X2_holds, ti_X2, by decide +kernel, by decide +kernel, by decide +kernel⟩
theorem tn_X2_holds : Cond.instanceMethod yX2_holds ∈ tw := tw_i 529 (by decide +kernel) (by decide +kernel)
theorem ts_X2_holds : Cond.selects RX2 yX2_holds yX2_holds ∈ tw := tw_i 34 (by decide +kernel) (by decide +kernel)
theorem mi_X2_holds : Mi mX2_holds := ⟨tn_X2_holds, ts_X2_holds⟩
abbrev mX2_tellSeconds : Mb := (yX2_tellSeconds, cX2_tellSeconds, 8, none)
set_option maxRecDepth 100000 in
theorem tc_X2_tellSeconds : Cond.code yX2_tellSeconds cX2_tellSeconds 8 none ∈ tw := tw_i 542 rfl rfl
theorem mw_X2_tellSeconds : Mw mX2_tellSeconds 3 := ⟨tc_X2_tellSeconds, ti_X2, by decide +kernel, by decide +kernel, by decide +kernel⟩
theorem tn_X2_tellSeconds : Cond.instanceMethod yX2_tellSeconds ∈ tw := tw_i 541 (by decide +kernel) (by decide +kernel)
theorem ts_X2_tellSeconds : Cond.selects RX2 yX2_tellSeconds yX2_tellSeconds ∈ tw := tw_i 37 (by decide +kernel) (by decide +kernel)
theorem mi_X2_tellSeconds : Mi mX2_tellSeconds := ⟨tn_X2_tellSeconds, ts_X2_tellSeconds⟩
abbrev mX2_tell : Mb := (yX2_tell, cX2_tell, 6, none)
set_option maxRecDepth 100000 in
theorem tc_X2_tell : Cond.code yX2_tell cX2_tell 6 none ∈ tw := tw_i 534 rfl rfl
theorem mw_X2_tell : Mw mX2_tell 4 := ⟨tc_X2_tell, ti_X2, by decide +kernel, by decide +kernel, by decide +kernel⟩
theorem tn_X2_tell : Cond.instanceMethod yX2_tell ∈ tw := tw_i 533 (by decide +kernel) (by decide +kernel)
theorem ts_X2_tell : Cond.selects RX2 yX2_tell yX2_tell ∈ tw := tw_i 35 (by decide +kernel) (by decide +kernel)
theorem mi_X2_tell : Mi mX2_tell := ⟨tn_X2_tell, ts_X2_tell⟩
abbrev mX2_part : Mb := (yX2_part, cX2_part, 4, (some .int))
set_option maxRecDepth 100000 in
theorem tc_X2_part : Cond.code yX2_part cX2_part 4 (some .int) ∈ tw := tw_i 550 rfl rfl
theorem mw_X2_part : Mw mX2_part 2 := ⟨tc_X2_part, ti_X2, by decide +kernel, by decide +kernel, by decide +kernel⟩
theorem tn_X2_part : Cond.instanceMethod yX2_part ∈ tw := tw_i 549 (by decide +kernel) (by decide +kernel)
theorem ts_X2_part : Cond.selects RX2 yX2_part yX2_part ∈ tw := tw_i 38 (by decide +kernel) (by decide +kernel)
theorem mi_X2_part : Mi mX2_part := ⟨tn_X2_part, ts_X2_part⟩
abbrev mX3_take : Mb := (yX3_take, cX3_take, 3, none)
set_option maxRecDepth 100000 in
theorem tc_X3_take : Cond.code yX3_take cX3_take 3 none ∈ tw := tw_i 238 rfl rfl
theorem mw_X3_take : Mw mX3_take 2 := ⟨tc_X3_take, ti_X3, by decide +kernel, by decide +kernel, by decide +kernel⟩
theorem tn_X3_take : Cond.instanceMethod yX3_take ∈ tw := tw_i 237 (by decide +kernel) (by decide +kernel)
theorem ts_X3_take : Cond.selects RX3 yX3_take yX3_take ∈ tw := tw_i 3 (by decide +kernel) (by decide +kernel)
theorem mi_X3_take : Mi mX3_take := ⟨tn_X3_take, ts_X3_take⟩
abbrev mX3_drop : Mb := (yX3_drop, cX3_drop, 1, none)
set_option maxRecDepth 100000 in
theorem tc_X3_drop : Cond.code yX3_drop cX3_drop 1 none ∈ tw := tw_i 275 rfl rfl
theorem mw_X3_drop : Mw mX3_drop 0 := ⟨tc_X3_drop, ti_X3, by decide +kernel, by decide +kernel, by decide +kernel⟩
theorem tn_X3_drop : Cond.instanceMethod yX3_drop ∈ tw := tw_i 274 (by decide +kernel) (by decide +kernel)
theorem ts_X3_drop : Cond.selects RX3 yX3_drop yX3_drop ∈ tw := tw_i 8 (by decide +kernel) (by decide +kernel)
theorem mi_X3_drop : Mi mX3_drop := ⟨tn_X3_drop, ts_X3_drop⟩
abbrev mX3_write : Mb := (yX3_write, cX3_write, 3, none)
set_option maxRecDepth 100000 in
theorem tc_X3_write : Cond.code yX3_write cX3_write 3 none ∈ tw := tw_i 247 rfl rfl
theorem mw_X3_write : Mw mX3_write 2 := ⟨tc_X3_write, ti_X3, by decide +kernel, by decide +kernel, by decide +kernel⟩
theorem tn_X3_write : Cond.instanceMethod yX3_write ∈ tw := tw_i 246 (by decide +kernel) (by decide +kernel)
theorem ts_X3_write : Cond.selects RX3 yX3_write yX3_write ∈ tw := tw_i 4 (by decide +kernel) (by decide +kernel)
theorem mi_X3_write : Mi mX3_write := ⟨tn_X3_write, ts_X3_write⟩
abbrev mX3_read : Mb := (yX3_read, cX3_read, 2, (some .int))
set_option maxRecDepth 100000 in
theorem tc_X3_read : Cond.code yX3_read cX3_read 2 (some .int) ∈ tw := tw_i 262 rfl rfl
theorem mw_X3_read : Mw mX3_read 1 := ⟨tc_X3_read, ti_X3, by decide +kernel, by decide +kernel, by decide +kernel⟩
theorem tn_X3_read : Cond.instanceMethod yX3_read ∈ tw := tw_i 261 (by decide +kernel) (by decide +kernel)
theorem ts_X3_read : Cond.selects RX3 yX3_read yX3_read ∈ tw := tw_i 6 (by decide +kernel) (by decide +kernel)
theorem mi_X3_read : Mi mX3_read := ⟨tn_X3_read, ts_X3_read⟩
abbrev mX4_reduce : Mb := (yX4_reduce, cX4_reduce, 7, (some .int))
set_option maxRecDepth 100000 in
theorem tc_X4_reduce : Cond.code yX4_reduce cX4_reduce 7 (some .int) ∈ tw := tw_i 432 rfl rfl
theorem mw_X4_reduce : Mw mX4_reduce 1 := ⟨tc_X4_reduce, ti_X4, by decide +kernel, by decide +kernel, by decide +kernel⟩
theorem tn_X4_reduce : Cond.instanceMethod yX4_reduce ∈ tw := tw_i 431 (by decide +kernel) (by decide +kernel)
theorem ts_X4_reduce : Cond.selects RX4 yX4_reduce yX4_reduce ∈ tw := tw_i 22 (by decide +kernel) (by decide +kernel)
theorem mi_X4_reduce : Mi mX4_reduce := ⟨tn_X4_reduce, ts_X4_reduce⟩
abbrev mX4_fillCells : Mb := (yX4_fillCells, cX4_fillCells, 5, none)
set_option maxRecDepth 100000 in
theorem tc_X4_fillCells : Cond.code yX4_fillCells cX4_fillCells 5 none ∈ tw := tw_i 436 rfl rfl
theorem mw_X4_fillCells : Mw mX4_fillCells 2 := ⟨tc_X4_fillCells, ti_X4, by decide +kernel, by decide +kernel, by decide +kernel⟩
theorem tn_X4_fillCells : Cond.instanceMethod yX4_fillCells ∈ tw := tw_i 435 (by decide +kernel) (by decide +kernel)
theorem ts_X4_fillCells : Cond.selects RX4 yX4_fillCells yX4_fillCells ∈ tw := tw_i 23 (by decide +kernel) (by decide +kernel)
theorem mi_X4_fillCells : Mi mX4_fillCells := ⟨tn_X4_fillCells, ts_X4_fillCells⟩
abbrev mX4_rowToLead : Mb := (yX4_rowToLead, cX4_rowToLead, 4, (some .int))
set_option maxRecDepth 100000 in
theorem tc_X4_rowToLead : Cond.code yX4_rowToLead cX4_rowToLead 4 (some .int) ∈ tw := tw_i 444 rfl rfl
theorem mw_X4_rowToLead : Mw mX4_rowToLead 2 := ⟨tc_X4_rowToLead, ti_X4, by decide +kernel, by decide +kernel, by decide +kernel⟩
theorem tn_X4_rowToLead : Cond.instanceMethod yX4_rowToLead ∈ tw := tw_i 443 (by decide +kernel) (by decide +kernel)
theorem ts_X4_rowToLead : Cond.selects RX4 yX4_rowToLead yX4_rowToLead ∈ tw := tw_i 25 (by decide +kernel) (by decide +kernel)
theorem mi_X4_rowToLead : Mi mX4_rowToLead := ⟨tn_X4_rowToLead, ts_X4_rowToLead⟩
abbrev mX4_swapCells : Mb := (yX4_swapCells, cX4_swapCells, 7, none)
set_option maxRecDepth 100000 in
theorem tc_X4_swapCells : Cond.code yX4_swapCells cX4_swapCells 7 none ∈ tw := tw_i 448 rfl rfl
theorem mw_X4_swapCells : Mw mX4_swapCells 3 := ⟨tc_X4_swapCells, ti_X4, by decide +kernel, by decide +kernel, by decide +kernel⟩
theorem tn_X4_swapCells : Cond.instanceMethod yX4_swapCells ∈ tw := tw_i 447 (by decide +kernel) (by decide +kernel)
theorem ts_X4_swapCells : Cond.selects RX4 yX4_swapCells yX4_swapCells ∈ tw := tw_i 26 (by decide +kernel) (by decide +kernel)
theorem mi_X4_swapCells : Mi mX4_swapCells := ⟨tn_X4_swapCells, ts_X4_swapCells⟩
abbrev mX4_clearColumn : Mb := (yX4_clearColumn, cX4_clearColumn, 11, none)
set_option maxRecDepth 100000 in
theorem tc_X4_clearColumn : Cond.code yX4_clearColumn cX4_clearColumn 11 none ∈ tw := tw_i 452 rfl rfl
theorem mw_X4_clearColumn : Mw mX4_clearColumn 3 := ⟨tc_X4_clearColumn, ti_X4, by decide +kernel, by decide +kernel, by decide +kernel⟩
theorem tn_X4_clearColumn : Cond.instanceMethod yX4_clearColumn ∈ tw := tw_i 451 (by decide +kernel) (by decide +kernel)
theorem ts_X4_clearColumn : Cond.selects RX4 yX4_clearColumn yX4_clearColumn ∈ tw := tw_i 27 (by decide +kernel) (by decide +kernel)
theorem mi_X4_clearColumn : Mi mX4_clearColumn := ⟨tn_X4_clearColumn, ts_X4_clearColumn⟩
abbrev mX4_invert : Mb := (yX4_invert, cX4_invert, 10, (some .boolean))
set_option maxRecDepth 100000 in
theorem tc_X4_invert : Cond.code yX4_invert cX4_invert 10 (some .boolean) ∈ tw := tw_i 425 rfl rfl
theorem mw_X4_invert : Mw mX4_invert 1 := ⟨tc_X4_invert, ti_X4, by decide +kernel, by decide +kernel, by decide +kernel⟩
theorem tn_X4_invert : Cond.instanceMethod yX4_invert ∈ tw := tw_i 424 (by decide +kernel) (by decide +kernel)
theorem ts_X4_invert : Cond.selects RX4 yX4_invert yX4_invert ∈ tw := tw_i 21 (by decide +kernel) (by decide +kernel)
theorem mi_X4_invert : Mi mX4_invert := ⟨tn_X4_invert, ts_X4_invert⟩
abbrev mX4_backAt : Mb := (yX4_backAt, cX4_backAt, 2, (some .long))
set_option maxRecDepth 100000 in
theorem tc_X4_backAt : Cond.code yX4_backAt cX4_backAt 2 (some .long) ∈ tw := tw_i 465 rfl rfl
theorem mw_X4_backAt : Mw mX4_backAt 1 := ⟨tc_X4_backAt, ti_X4, by decide +kernel, by decide +kernel, by decide +kernel⟩
theorem tn_X4_backAt : Cond.instanceMethod yX4_backAt ∈ tw := tw_i 464 (by decide +kernel) (by decide +kernel)
theorem ts_X4_backAt : Cond.selects RX4 yX4_backAt yX4_backAt ∈ tw := tw_i 28 (by decide +kernel) (by decide +kernel)
theorem mi_X4_backAt : Mi mX4_backAt := ⟨tn_X4_backAt, ts_X4_backAt⟩
abbrev mX4_noisePart : Mb := (yX4_noisePart, cX4_noisePart, 7, (some .long))
set_option maxRecDepth 100000 in
theorem tc_X4_noisePart : Cond.code yX4_noisePart cX4_noisePart 7 (some .long) ∈ tw := tw_i 473 rfl rfl
theorem mw_X4_noisePart : Mw mX4_noisePart 2 := ⟨tc_X4_noisePart, ti_X4, by decide +kernel, by decide +kernel, by decide +kernel⟩
theorem tn_X4_noisePart : Cond.instanceMethod yX4_noisePart ∈ tw := tw_i 472 (by decide +kernel) (by decide +kernel)
theorem ts_X4_noisePart : Cond.selects RX4 yX4_noisePart yX4_noisePart ∈ tw := tw_i 29 (by decide +kernel) (by decide +kernel)
theorem mi_X4_noisePart : Mi mX4_noisePart := ⟨tn_X4_noisePart, ts_X4_noisePart⟩
abbrev mX4_showLost : Mb := (yX4_showLost, cX4_showLost, 12, none)
set_option maxRecDepth 100000 in
theorem tc_X4_showLost : Cond.code yX4_showLost cX4_showLost 12 none ∈ tw := tw_i 486 rfl rfl
theorem mw_X4_showLost : Mw mX4_showLost 2 := ⟨tc_X4_showLost, ti_X4, by decide +kernel, by decide +kernel, by decide +kernel⟩
theorem tn_X4_showLost : Cond.instanceMethod yX4_showLost ∈ tw := tw_i 485 (by decide +kernel) (by decide +kernel)
theorem ts_X4_showLost : Cond.selects RX4 yX4_showLost yX4_showLost ∈ tw := tw_i 30 (by decide +kernel) (by decide +kernel)
theorem mi_X4_showLost : Mi mX4_showLost := ⟨tn_X4_showLost, ts_X4_showLost⟩
abbrev mX4_showSolved : Mb := (yX4_showSolved, cX4_showSolved, 7, (some .boolean))
set_option maxRecDepth 100000 in
theorem tc_X4_showSolved : Cond.code yX4_showSolved cX4_showSolved 7 (some .boolean) ∈ tw := tw_i 495 rfl rfl
theorem mw_X4_showSolved : Mw mX4_showSolved 1 := ⟨tc_X4_showSolved, ti_X4, by decide +kernel, by decide +kernel, by decide +kernel⟩
theorem tn_X4_showSolved : Cond.instanceMethod yX4_showSolved ∈ tw := tw_i 494 (by decide +kernel) (by decide +kernel)
theorem ts_X4_showSolved : Cond.selects RX4 yX4_showSolved yX4_showSolved ∈ tw := tw_i 31 (by decide +kernel) (by decide +kernel)
theorem mi_X4_showSolved : Mi mX4_showSolved := ⟨tn_X4_showSolved, ts_X4_showSolved⟩
abbrev mX5_ring : Mb := (yX5_ring, cX5_ring, 2, (some .boolean))
set_option maxRecDepth 100000 in
theorem tc_X5_ring : Cond.code yX5_ring cX5_ring 2 (some .boolean) ∈ tw := tw_i 212 rfl rfl
theorem mw_X5_ring : Mw mX5_ring 1 := ⟨tc_X5_ring, ti_X5, by decide +kernel, by decide +kernel, by decide +kernel⟩
theorem tn_X5_ring : Cond.instanceMethod yX5_ring ∈ tw := tw_i 210 (by decide +kernel) (by decide +kernel)
theorem ts_X5_ring : Cond.selects RX5 yX5_ring yX5_ring ∈ tw := tw_i 211 (by decide +kernel) (by decide +kernel)
theorem mi_X5_ring : Mi mX5_ring := ⟨tn_X5_ring, ts_X5_ring⟩
abbrev mX5_sheet : Mb := (yX5_sheet, cX5_sheet, 3, (some .int))
set_option maxRecDepth 100000 in
theorem tc_X5_sheet : Cond.code yX5_sheet cX5_sheet 3 (some .int) ∈ tw := tw_i 231 rfl rfl
theorem mw_X5_sheet : Mw mX5_sheet 2 := ⟨tc_X5_sheet, ti_X5, by decide +kernel, by decide +kernel, by decide +kernel⟩
theorem tn_X5_sheet : Cond.instanceMethod yX5_sheet ∈ tw := tw_i 229 (by decide +kernel) (by decide +kernel)
theorem ts_X5_sheet : Cond.selects RX5 yX5_sheet yX5_sheet ∈ tw := tw_i 230 (by decide +kernel) (by decide +kernel)
theorem mi_X5_sheet : Mi mX5_sheet := ⟨tn_X5_sheet, ts_X5_sheet⟩
abbrev mX5_entry : Mb := (yX5_entry, cX5_entry, 4, (some .boolean))
set_option maxRecDepth 100000 in
theorem tc_X5_entry : Cond.code yX5_entry cX5_entry 4 (some .boolean) ∈ tw := tw_i 243 rfl rfl
theorem mw_X5_entry : Mw mX5_entry 2 := ⟨tc_X5_entry, ti_X5, by decide +kernel, by decide +kernel, by decide +kernel⟩
theorem tn_X5_entry : Cond.instanceMethod yX5_entry ∈ tw := tw_i 241 (by decide +kernel) (by decide +kernel)
theorem ts_X5_entry : Cond.selects RX5 yX5_entry yX5_entry ∈ tw := tw_i 242 (by decide +kernel) (by decide +kernel)
theorem mi_X5_entry : Mi mX5_entry := ⟨tn_X5_entry, ts_X5_entry⟩
abbrev mX5_lay : Mb := (yX5_lay, cX5_lay, 3, (some .boolean))
set_option maxRecDepth 100000 in
theorem tc_X5_lay : Cond.code yX5_lay cX5_lay 3 (some .boolean) ∈ tw := tw_i 251 rfl rfl
theorem mw_X5_lay : Mw mX5_lay 1 := ⟨tc_X5_lay, ti_X5, by decide +kernel, by decide +kernel, by decide +kernel⟩
theorem tn_X5_lay : Cond.instanceMethod yX5_lay ∈ tw := tw_i 249 (by decide +kernel) (by decide +kernel)
theorem ts_X5_lay : Cond.selects RX5 yX5_lay yX5_lay ∈ tw := tw_i 250 (by decide +kernel) (by decide +kernel)
theorem mi_X5_lay : Mi mX5_lay := ⟨tn_X5_lay, ts_X5_lay⟩
abbrev mX5_set : Mb := (yX5_set, cX5_set, 5, (some .boolean))
set_option maxRecDepth 100000 in
theorem tc_X5_set : Cond.code yX5_set cX5_set 5 (some .boolean) ∈ tw := tw_i 283 rfl rfl
theorem mw_X5_set : Mw mX5_set 3 := ⟨tc_X5_set, ti_X5, by decide +kernel, by decide +kernel, by decide +kernel⟩
theorem tn_X5_set : Cond.instanceMethod yX5_set ∈ tw := tw_i 281 (by decide +kernel) (by decide +kernel)
theorem ts_X5_set : Cond.selects RX5 yX5_set yX5_set ∈ tw := tw_i 282 (by decide +kernel) (by decide +kernel)
theorem mi_X5_set : Mi mX5_set := ⟨tn_X5_set, ts_X5_set⟩
abbrev mX5_miss : Mb := (yX5_miss, cX5_miss, 2, (some .boolean))
set_option maxRecDepth 100000 in
theorem tc_X5_miss : Cond.code yX5_miss cX5_miss 2 (some .boolean) ∈ tw := tw_i 291 rfl rfl
theorem mw_X5_miss : Mw mX5_miss 1 := ⟨tc_X5_miss, ti_X5, by decide +kernel, by decide +kernel, by decide +kernel⟩
theorem tn_X5_miss : Cond.instanceMethod yX5_miss ∈ tw := tw_i 289 (by decide +kernel) (by decide +kernel)
theorem ts_X5_miss : Cond.selects RX5 yX5_miss yX5_miss ∈ tw := tw_i 290 (by decide +kernel) (by decide +kernel)
theorem mi_X5_miss : Mi mX5_miss := ⟨tn_X5_miss, ts_X5_miss⟩
abbrev mX5_at : Mb := (yX5_at, cX5_at, 4, (some .int))
set_option maxRecDepth 100000 in
theorem tc_X5_at : Cond.code yX5_at cX5_at 4 (some .int) ∈ tw := tw_i 624 rfl rfl
theorem mw_X5_at : Mw mX5_at 2 := ⟨tc_X5_at, ti_X5, by decide +kernel, by decide +kernel, by decide +kernel⟩
theorem tn_X5_at : Cond.instanceMethod yX5_at ∈ tw := tw_i 622 (by decide +kernel) (by decide +kernel)
theorem ts_X5_at : Cond.selects RX5 yX5_at yX5_at ∈ tw := tw_i 623 (by decide +kernel) (by decide +kernel)
theorem mi_X5_at : Mi mX5_at := ⟨tn_X5_at, ts_X5_at⟩
abbrev mX5_count : Mb := (yX5_count, cX5_count, 2, (some .int))
set_option maxRecDepth 100000 in
theorem tc_X5_count : Cond.code yX5_count cX5_count 2 (some .int) ∈ tw := tw_i 296 rfl rfl
theorem mw_X5_count : Mw mX5_count 1 := ⟨tc_X5_count, ti_X5, by decide +kernel, by decide +kernel, by decide +kernel⟩
theorem tn_X5_count : Cond.instanceMethod yX5_count ∈ tw := tw_i 294 (by decide +kernel) (by decide +kernel)
theorem ts_X5_count : Cond.selects RX5 yX5_count yX5_count ∈ tw := tw_i 295 (by decide +kernel) (by decide +kernel)
theorem mi_X5_count : Mi mX5_count := ⟨tn_X5_count, ts_X5_count⟩
abbrev mX5_shadow : Mb := (yX5_shadow, cX5_shadow, 2, (some .int))
set_option maxRecDepth 100000 in
theorem tc_X5_shadow : Cond.code yX5_shadow cX5_shadow 2 (some .int) ∈ tw := tw_i 320 rfl rfl
theorem mw_X5_shadow : Mw mX5_shadow 1 := ⟨tc_X5_shadow, ti_X5, by decide +kernel, by decide +kernel, by decide +kernel⟩
theorem tn_X5_shadow : Cond.instanceMethod yX5_shadow ∈ tw := tw_i 318 (by decide +kernel) (by decide +kernel)
theorem ts_X5_shadow : Cond.selects RX5 yX5_shadow yX5_shadow ∈ tw := tw_i 319 (by decide +kernel) (by decide +kernel)
theorem mi_X5_shadow : Mi mX5_shadow := ⟨tn_X5_shadow, ts_X5_shadow⟩
abbrev mX5_cast : Mb := (yX5_cast, cX5_cast, 2, (some .boolean))
set_option maxRecDepth 100000 in
theorem tc_X5_cast : Cond.code yX5_cast cX5_cast 2 (some .boolean) ∈ tw := tw_i 328 rfl rfl
theorem mw_X5_cast : Mw mX5_cast 0 := ⟨tc_X5_cast, ti_X5, by decide +kernel, by decide +kernel, by decide +kernel⟩
theorem tn_X5_cast : Cond.instanceMethod yX5_cast ∈ tw := tw_i 326 (by decide +kernel) (by decide +kernel)
theorem ts_X5_cast : Cond.selects RX5 yX5_cast yX5_cast ∈ tw := tw_i 327 (by decide +kernel) (by decide +kernel)
theorem mi_X5_cast : Mi mX5_cast := ⟨tn_X5_cast, ts_X5_cast⟩
abbrev mX5_meets : Mb := (yX5_meets, cX5_meets, 2, (some .int))
set_option maxRecDepth 100000 in
theorem tc_X5_meets : Cond.code yX5_meets cX5_meets 2 (some .int) ∈ tw := tw_i 332 rfl rfl
theorem mw_X5_meets : Mw mX5_meets 1 := ⟨tc_X5_meets, ti_X5, by decide +kernel, by decide +kernel, by decide +kernel⟩
theorem tn_X5_meets : Cond.instanceMethod yX5_meets ∈ tw := tw_i 330 (by decide +kernel) (by decide +kernel)
theorem ts_X5_meets : Cond.selects RX5 yX5_meets yX5_meets ∈ tw := tw_i 331 (by decide +kernel) (by decide +kernel)
theorem mi_X5_meets : Mi mX5_meets := ⟨tn_X5_meets, ts_X5_meets⟩
abbrev mX5_off : Mb := (yX5_off, cX5_off, 1, (some .int))
set_option maxRecDepth 100000 in
theorem tc_X5_off : Cond.code yX5_off cX5_off 1 (some .int) ∈ tw := tw_i 337 rfl rfl
theorem mw_X5_off : Mw mX5_off 0 := ⟨tc_X5_off, ti_X5, by decide +kernel, by decide +kernel, by decide +kernel⟩
theorem tn_X5_off : Cond.instanceMethod yX5_off ∈ tw := tw_i 335 (by decide +kernel) (by decide +kernel)
theorem ts_X5_off : Cond.selects RX5 yX5_off yX5_off ∈ tw := tw_i 336 (by decide +kernel) (by decide +kernel)
theorem mi_X5_off : Mi mX5_off := ⟨tn_X5_off, ts_X5_off⟩
abbrev mX5_turn : Mb := (yX5_turn, cX5_turn, 2, (some .boolean))
set_option maxRecDepth 100000 in
theorem tc_X5_turn : Cond.code yX5_turn cX5_turn 2 (some .boolean) ∈ tw := tw_i 341 rfl rfl
theorem mw_X5_turn : Mw mX5_turn 1 := ⟨tc_X5_turn, ti_X5, by decide +kernel, by decide +kernel, by decide +kernel⟩
theorem tn_X5_turn : Cond.instanceMethod yX5_turn ∈ tw := tw_i 339 (by decide +kernel) (by decide +kernel)
theorem ts_X5_turn : Cond.selects RX5 yX5_turn yX5_turn ∈ tw := tw_i 340 (by decide +kernel) (by decide +kernel)
theorem mi_X5_turn : Mi mX5_turn := ⟨tn_X5_turn, ts_X5_turn⟩
abbrev mX5_anti : Mb := (yX5_anti, cX5_anti, 2, (some .boolean))
set_option maxRecDepth 100000 in
theorem tc_X5_anti : Cond.code yX5_anti cX5_anti 2 (some .boolean) ∈ tw := tw_i 355 rfl rfl
theorem mw_X5_anti : Mw mX5_anti 0 := ⟨tc_X5_anti, ti_X5, by decide +kernel, by decide +kernel, by decide +kernel⟩
theorem tn_X5_anti : Cond.instanceMethod yX5_anti ∈ tw := tw_i 353 (by decide +kernel) (by decide +kernel)
theorem ts_X5_anti : Cond.selects RX5 yX5_anti yX5_anti ∈ tw := tw_i 354 (by decide +kernel) (by decide +kernel)
theorem mi_X5_anti : Mi mX5_anti := ⟨tn_X5_anti, ts_X5_anti⟩
abbrev mX5_fold : Mb := (yX5_fold, cX5_fold, 6, (some .int))
set_option maxRecDepth 100000 in
theorem tc_X5_fold : Cond.code yX5_fold cX5_fold 6 (some .int) ∈ tw := tw_i 363 rfl rfl
theorem mw_X5_fold : Mw mX5_fold 4 := ⟨tc_X5_fold, ti_X5, by decide +kernel, by decide +kernel, by decide +kernel⟩
theorem tn_X5_fold : Cond.instanceMethod yX5_fold ∈ tw := tw_i 361 (by decide +kernel) (by decide +kernel)
theorem ts_X5_fold : Cond.selects RX5 yX5_fold yX5_fold ∈ tw := tw_i 362 (by decide +kernel) (by decide +kernel)
theorem mi_X5_fold : Mi mX5_fold := ⟨tn_X5_fold, ts_X5_fold⟩
abbrev mX5_rests : Mb := (yX5_rests, cX5_rests, 3, (some .int))
set_option maxRecDepth 100000 in
theorem tc_X5_rests : Cond.code yX5_rests cX5_rests 3 (some .int) ∈ tw := tw_i 377 rfl rfl
theorem mw_X5_rests : Mw mX5_rests 1 := ⟨tc_X5_rests, ti_X5, by decide +kernel, by decide +kernel, by decide +kernel⟩
theorem tn_X5_rests : Cond.instanceMethod yX5_rests ∈ tw := tw_i 375 (by decide +kernel) (by decide +kernel)
theorem ts_X5_rests : Cond.selects RX5 yX5_rests yX5_rests ∈ tw := tw_i 376 (by decide +kernel) (by decide +kernel)
theorem mi_X5_rests : Mi mX5_rests := ⟨tn_X5_rests, ts_X5_rests⟩
abbrev mX5_twins : Mb := (yX5_twins, cX5_twins, 5, (some .int))
set_option maxRecDepth 100000 in
theorem tc_X5_twins : Cond.code yX5_twins cX5_twins 5 (some .int) ∈ tw := tw_i 390 rfl rfl
theorem mw_X5_twins : Mw mX5_twins 1 := ⟨tc_X5_twins, ti_X5, by decide +kernel, by decide +kernel, by decide +kernel⟩
theorem tn_X5_twins : Cond.instanceMethod yX5_twins ∈ tw := tw_i 388 (by decide +kernel) (by decide +kernel)
theorem ts_X5_twins : Cond.selects RX5 yX5_twins yX5_twins ∈ tw := tw_i 389 (by decide +kernel) (by decide +kernel)
theorem mi_X5_twins : Mi mX5_twins := ⟨tn_X5_twins, ts_X5_twins⟩
abbrev mX5_shift : Mb := (yX5_shift, cX5_shift, 6, (some .int))
set_option maxRecDepth 100000 in
theorem tc_X5_shift : Cond.code yX5_shift cX5_shift 6 (some .int) ∈ tw := tw_i 397 rfl rfl
theorem mw_X5_shift : Mw mX5_shift 1 := ⟨tc_X5_shift, ti_X5, by decide +kernel, by decide +kernel, by decide +kernel⟩
theorem tn_X5_shift : Cond.instanceMethod yX5_shift ∈ tw := tw_i 395 (by decide +kernel) (by decide +kernel)
theorem ts_X5_shift : Cond.selects RX5 yX5_shift yX5_shift ∈ tw := tw_i 396 (by decide +kernel) (by decide +kernel)
theorem mi_X5_shift : Mi mX5_shift := ⟨tn_X5_shift, ts_X5_shift⟩
abbrev mX5_undo : Mb := (yX5_undo, cX5_undo, 1, (some .long))
set_option maxRecDepth 100000 in
theorem tc_X5_undo : Cond.code yX5_undo cX5_undo 1 (some .long) ∈ tw := tw_i 416 rfl rfl
theorem mw_X5_undo : Mw mX5_undo 0 := ⟨tc_X5_undo, ti_X5, by decide +kernel, by decide +kernel, by decide +kernel⟩
theorem tn_X5_undo : Cond.instanceMethod yX5_undo ∈ tw := tw_i 414 (by decide +kernel) (by decide +kernel)
theorem ts_X5_undo : Cond.selects RX5 yX5_undo yX5_undo ∈ tw := tw_i 415 (by decide +kernel) (by decide +kernel)
theorem mi_X5_undo : Mi mX5_undo := ⟨tn_X5_undo, ts_X5_undo⟩
abbrev mX5_back : Mb := (yX5_back, cX5_back, 2, (some .long))
set_option maxRecDepth 100000 in
theorem tc_X5_back : Cond.code yX5_back cX5_back 2 (some .long) ∈ tw := tw_i 461 rfl rfl
theorem mw_X5_back : Mw mX5_back 1 := ⟨tc_X5_back, ti_X5, by decide +kernel, by decide +kernel, by decide +kernel⟩
theorem tn_X5_back : Cond.instanceMethod yX5_back ∈ tw := tw_i 459 (by decide +kernel) (by decide +kernel)
theorem ts_X5_back : Cond.selects RX5 yX5_back yX5_back ∈ tw := tw_i 460 (by decide +kernel) (by decide +kernel)
theorem mi_X5_back : Mi mX5_back := ⟨tn_X5_back, ts_X5_back⟩
abbrev mX5_noise : Mb := (yX5_noise, cX5_noise, 2, (some .long))
set_option maxRecDepth 100000 in
theorem tc_X5_noise : Cond.code yX5_noise cX5_noise 2 (some .long) ∈ tw := tw_i 469 rfl rfl
theorem mw_X5_noise : Mw mX5_noise 1 := ⟨tc_X5_noise, ti_X5, by decide +kernel, by decide +kernel, by decide +kernel⟩
theorem tn_X5_noise : Cond.instanceMethod yX5_noise ∈ tw := tw_i 467 (by decide +kernel) (by decide +kernel)
theorem ts_X5_noise : Cond.selects RX5 yX5_noise yX5_noise ∈ tw := tw_i 468 (by decide +kernel) (by decide +kernel)
theorem mi_X5_noise : Mi mX5_noise := ⟨tn_X5_noise, ts_X5_noise⟩
abbrev mX5_rank : Mb := (yX5_rank, cX5_rank, 1, (some .int))
set_option maxRecDepth 100000 in
theorem tc_X5_rank : Cond.code yX5_rank cX5_rank 1 (some .int) ∈ tw := tw_i 477 rfl rfl
theorem mw_X5_rank : Mw mX5_rank 0 := ⟨tc_X5_rank, ti_X5, by decide +kernel, by decide +kernel, by decide +kernel⟩
theorem tn_X5_rank : Cond.instanceMethod yX5_rank ∈ tw := tw_i 475 (by decide +kernel) (by decide +kernel)
theorem ts_X5_rank : Cond.selects RX5 yX5_rank yX5_rank ∈ tw := tw_i 476 (by decide +kernel) (by decide +kernel)
theorem mi_X5_rank : Mi mX5_rank := ⟨tn_X5_rank, ts_X5_rank⟩
abbrev mX5_lost : Mb := (yX5_lost, cX5_lost, 2, (some .int))
set_option maxRecDepth 100000 in
theorem tc_X5_lost : Cond.code yX5_lost cX5_lost 2 (some .int) ∈ tw := tw_i 482 rfl rfl
theorem mw_X5_lost : Mw mX5_lost 0 := ⟨tc_X5_lost, ti_X5, by decide +kernel, by decide +kernel, by decide +kernel⟩
theorem tn_X5_lost : Cond.instanceMethod yX5_lost ∈ tw := tw_i 480 (by decide +kernel) (by decide +kernel)
theorem ts_X5_lost : Cond.selects RX5 yX5_lost yX5_lost ∈ tw := tw_i 481 (by decide +kernel) (by decide +kernel)
theorem mi_X5_lost : Mi mX5_lost := ⟨tn_X5_lost, ts_X5_lost⟩
abbrev mX5_solve : Mb := (yX5_solve, cX5_solve, 2, (some .int))
set_option maxRecDepth 100000 in
theorem tc_X5_solve : Cond.code yX5_solve cX5_solve 2 (some .int) ∈ tw := tw_i 491 rfl rfl
theorem mw_X5_solve : Mw mX5_solve 0 := ⟨tc_X5_solve, ti_X5, by decide +kernel, by decide +kernel, by decide +kernel⟩
theorem tn_X5_solve : Cond.instanceMethod yX5_solve ∈ tw := tw_i 489 (by decide +kernel) (by decide +kernel)
theorem ts_X5_solve : Cond.selects RX5 yX5_solve yX5_solve ∈ tw := tw_i 490 (by decide +kernel) (by decide +kernel)
theorem mi_X5_solve : Mi mX5_solve := ⟨tn_X5_solve, ts_X5_solve⟩
abbrev mX5_sure : Mb := (yX5_sure, cX5_sure, 2, (some .int))
set_option maxRecDepth 100000 in
theorem tc_X5_sure : Cond.code yX5_sure cX5_sure 2 (some .int) ∈ tw := tw_i 502 rfl rfl
theorem mw_X5_sure : Mw mX5_sure 0 := ⟨tc_X5_sure, ti_X5, by decide +kernel, by decide +kernel, by decide +kernel⟩
theorem tn_X5_sure : Cond.instanceMethod yX5_sure ∈ tw := tw_i 500 (by decide +kernel) (by decide +kernel)
theorem ts_X5_sure : Cond.selects RX5 yX5_sure yX5_sure ∈ tw := tw_i 501 (by decide +kernel) (by decide +kernel)
theorem mi_X5_sure : Mi mX5_sure := ⟨tn_X5_sure, ts_X5_sure⟩
abbrev mX5_points : Mb := (yX5_points, cX5_points, 2, (some .int))
set_option maxRecDepth 100000 in
theorem tc_X5_points : Cond.code yX5_points cX5_points 2 (some .int) ∈ tw := tw_i 506 rfl rfl
theorem mw_X5_points : Mw mX5_points 1 := ⟨tc_X5_points, ti_X5, by decide +kernel, by decide +kernel, by decide +kernel⟩
theorem tn_X5_points : Cond.instanceMethod yX5_points ∈ tw := tw_i 504 (by decide +kernel) (by decide +kernel)
theorem ts_X5_points : Cond.selects RX5 yX5_points yX5_points ∈ tw := tw_i 505 (by decide +kernel) (by decide +kernel)
theorem mi_X5_points : Mi mX5_points := ⟨tn_X5_points, ts_X5_points⟩
abbrev mX5_point : Mb := (yX5_point, cX5_point, 3, (some .int))
set_option maxRecDepth 100000 in
theorem tc_X5_point : Cond.code yX5_point cX5_point 3 (some .int) ∈ tw := tw_i 546 rfl rfl
theorem mw_X5_point : Mw mX5_point 2 := ⟨tc_X5_point, ti_X5, by decide +kernel, by decide +kernel, by decide +kernel⟩
theorem tn_X5_point : Cond.instanceMethod yX5_point ∈ tw := tw_i 544 (by decide +kernel) (by decide +kernel)
theorem ts_X5_point : Cond.selects RX5 yX5_point yX5_point ∈ tw := tw_i 545 (by decide +kernel) (by decide +kernel)
theorem mi_X5_point : Mi mX5_point := ⟨tn_X5_point, ts_X5_point⟩
abbrev mX5_table : Mb := (yX5_table, cX5_table, 5, (some .int))
set_option maxRecDepth 100000 in
theorem tc_X5_table : Cond.code yX5_table cX5_table 5 (some .int) ∈ tw := tw_i 554 rfl rfl
theorem mw_X5_table : Mw mX5_table 2 := ⟨tc_X5_table, ti_X5, by decide +kernel, by decide +kernel, by decide +kernel⟩
theorem tn_X5_table : Cond.instanceMethod yX5_table ∈ tw := tw_i 552 (by decide +kernel) (by decide +kernel)
theorem ts_X5_table : Cond.selects RX5 yX5_table yX5_table ∈ tw := tw_i 553 (by decide +kernel) (by decide +kernel)
theorem mi_X5_table : Mi mX5_table := ⟨tn_X5_table, ts_X5_table⟩
abbrev mX5_twice : Mb := (yX5_twice, cX5_twice, 2, (some .int))
set_option maxRecDepth 100000 in
theorem tc_X5_twice : Cond.code yX5_twice cX5_twice 2 (some .int) ∈ tw := tw_i 568 rfl rfl
theorem mw_X5_twice : Mw mX5_twice 0 := ⟨tc_X5_twice, ti_X5, by decide +kernel, by decide +kernel, by decide +kernel⟩
theorem tn_X5_twice : Cond.instanceMethod yX5_twice ∈ tw := tw_i 566 (by decide +kernel) (by decide +kernel)
theorem ts_X5_twice : Cond.selects RX5 yX5_twice yX5_twice ∈ tw := tw_i 567 (by decide +kernel) (by decide +kernel)
theorem mi_X5_twice : Mi mX5_twice := ⟨tn_X5_twice, ts_X5_twice⟩
abbrev mX5_swap : Mb := (yX5_swap, cX5_swap, 3, (some .boolean))
set_option maxRecDepth 100000 in
theorem tc_X5_swap : Cond.code yX5_swap cX5_swap 3 (some .boolean) ∈ tw := tw_i 579 rfl rfl
theorem mw_X5_swap : Mw mX5_swap 2 := ⟨tc_X5_swap, ti_X5, by decide +kernel, by decide +kernel, by decide +kernel⟩
theorem tn_X5_swap : Cond.instanceMethod yX5_swap ∈ tw := tw_i 577 (by decide +kernel) (by decide +kernel)
theorem ts_X5_swap : Cond.selects RX5 yX5_swap yX5_swap ∈ tw := tw_i 578 (by decide +kernel) (by decide +kernel)
theorem mi_X5_swap : Mi mX5_swap := ⟨tn_X5_swap, ts_X5_swap⟩
abbrev mX5_sign : Mb := (yX5_sign, cX5_sign, 3, (some .int))
set_option maxRecDepth 100000 in
theorem tc_X5_sign : Cond.code yX5_sign cX5_sign 3 (some .int) ∈ tw := tw_i 595 rfl rfl
theorem mw_X5_sign : Mw mX5_sign 2 := ⟨tc_X5_sign, ti_X5, by decide +kernel, by decide +kernel, by decide +kernel⟩
theorem tn_X5_sign : Cond.instanceMethod yX5_sign ∈ tw := tw_i 593 (by decide +kernel) (by decide +kernel)
theorem ts_X5_sign : Cond.selects RX5 yX5_sign yX5_sign ∈ tw := tw_i 594 (by decide +kernel) (by decide +kernel)
theorem mi_X5_sign : Mi mX5_sign := ⟨tn_X5_sign, ts_X5_sign⟩
abbrev mX5_product : Mb := (yX5_product, cX5_product, 3, (some .int))
set_option maxRecDepth 100000 in
theorem tc_X5_product : Cond.code yX5_product cX5_product 3 (some .int) ∈ tw := tw_i 603 rfl rfl
theorem mw_X5_product : Mw mX5_product 2 := ⟨tc_X5_product, ti_X5, by decide +kernel, by decide +kernel, by decide +kernel⟩
theorem tn_X5_product : Cond.instanceMethod yX5_product ∈ tw := tw_i 601 (by decide +kernel) (by decide +kernel)
theorem ts_X5_product : Cond.selects RX5 yX5_product yX5_product ∈ tw := tw_i 602 (by decide +kernel) (by decide +kernel)
theorem mi_X5_product : Mi mX5_product := ⟨tn_X5_product, ts_X5_product⟩
abbrev mX5_look : Mb := (yX5_look, cX5_look, 5, (some .int))
set_option maxRecDepth 100000 in
theorem tc_X5_look : Cond.code yX5_look cX5_look 5 (some .int) ∈ tw := tw_i 611 rfl rfl
theorem mw_X5_look : Mw mX5_look 1 := ⟨tc_X5_look, ti_X5, by decide +kernel, by decide +kernel, by decide +kernel⟩
theorem tn_X5_look : Cond.instanceMethod yX5_look ∈ tw := tw_i 609 (by decide +kernel) (by decide +kernel)
theorem ts_X5_look : Cond.selects RX5 yX5_look yX5_look ∈ tw := tw_i 610 (by decide +kernel) (by decide +kernel)
theorem mi_X5_look : Mi mX5_look := ⟨tn_X5_look, ts_X5_look⟩
abbrev mX5_fault : Mb := (yX5_fault, cX5_fault, 1, (some .int))
set_option maxRecDepth 100000 in
theorem tc_X5_fault : Cond.code yX5_fault cX5_fault 1 (some .int) ∈ tw := tw_i 616 rfl rfl
theorem mw_X5_fault : Mw mX5_fault 0 := ⟨tc_X5_fault, ti_X5, by decide +kernel, by decide +kernel, by decide +kernel⟩
theorem tn_X5_fault : Cond.instanceMethod yX5_fault ∈ tw := tw_i 614 (by decide +kernel) (by decide +kernel)
theorem ts_X5_fault : Cond.selects RX5 yX5_fault yX5_fault ∈ tw := tw_i 615 (by decide +kernel) (by decide +kernel)
theorem mi_X5_fault : Mi mX5_fault := ⟨tn_X5_fault, ts_X5_fault⟩
abbrev mX5_refuses : Mb := (yX5_refuses, cX5_refuses, 2, (some .boolean))
set_option maxRecDepth 100000 in
theorem tc_X5_refuses : Cond.code yX5_refuses cX5_refuses 2 (some .boolean) ∈ tw := tw_i 216 rfl rfl
theorem mw_X5_refuses : Mw mX5_refuses 1 := ⟨tc_X5_refuses, ti_X5, by decide +kernel, by decide +kernel, by decide +kernel⟩
theorem tn_X5_refuses : Cond.instanceMethod yX5_refuses ∈ tw := tw_i 215 (by decide +kernel) (by decide +kernel)
theorem ts_X5_refuses : Cond.selects RX5 yX5_refuses yX5_refuses ∈ tw := tw_i 0 (by decide +kernel) (by decide +kernel)
theorem mi_X5_refuses : Mi mX5_refuses := ⟨tn_X5_refuses, ts_X5_refuses⟩
abbrev mX5_startRing : Mb := (yX5_startRing, cX5_startRing, 2, none)
set_option maxRecDepth 100000 in
theorem tc_X5_startRing : Cond.code yX5_startRing cX5_startRing 2 none ∈ tw := tw_i 220 rfl rfl
theorem mw_X5_startRing : Mw mX5_startRing 1 := ⟨tc_X5_startRing, ti_X5, by decide +kernel, by decide +kernel, by decide +kernel⟩
theorem tn_X5_startRing : Cond.instanceMethod yX5_startRing ∈ tw := tw_i 219 (by decide +kernel) (by decide +kernel)
theorem ts_X5_startRing : Cond.selects RX5 yX5_startRing yX5_startRing ∈ tw := tw_i 1 (by decide +kernel) (by decide +kernel)
theorem mi_X5_startRing : Mi mX5_startRing := ⟨tn_X5_startRing, ts_X5_startRing⟩
abbrev mX5_forgetBackOf : Mb := (yX5_forgetBackOf, cX5_forgetBackOf, 2, none)
set_option maxRecDepth 100000 in
theorem tc_X5_forgetBackOf : Cond.code yX5_forgetBackOf cX5_forgetBackOf 2 none ∈ tw := tw_i 279 rfl rfl
theorem mw_X5_forgetBackOf : Mw mX5_forgetBackOf 1 := ⟨tc_X5_forgetBackOf, ti_X5, by decide +kernel, by decide +kernel, by decide +kernel⟩
theorem tn_X5_forgetBackOf : Cond.instanceMethod yX5_forgetBackOf ∈ tw := tw_i 278 (by decide +kernel) (by decide +kernel)
theorem ts_X5_forgetBackOf : Cond.selects RX5 yX5_forgetBackOf yX5_forgetBackOf ∈ tw := tw_i 9 (by decide +kernel) (by decide +kernel)
theorem mi_X5_forgetBackOf : Mi mX5_forgetBackOf := ⟨tn_X5_forgetBackOf, ts_X5_forgetBackOf⟩
abbrev mX5_sheetFault : Mb := (yX5_sheetFault, cX5_sheetFault, 2, (some .int))
set_option maxRecDepth 100000 in
theorem tc_X5_sheetFault : Cond.code yX5_sheetFault cX5_sheetFault 2 (some .int) ∈ tw := tw_i 234 rfl rfl
theorem mw_X5_sheetFault : Mw mX5_sheetFault 2 := ⟨tc_X5_sheetFault, ti_X5, by decide +kernel, by decide +kernel, by decide +kernel⟩
theorem ms_X5_sheetFault : Cond.static yX5_sheetFault ∈ tw := tw_i 233 (by decide +kernel) (by decide +kernel)
abbrev mX5_layFault : Mb := (yX5_layFault, cX5_layFault, 3, (some .int))
set_option maxRecDepth 100000 in
theorem tc_X5_layFault : Cond.code yX5_layFault cX5_layFault 3 (some .int) ∈ tw := tw_i 255 rfl rfl
theorem mw_X5_layFault : Mw mX5_layFault 1 := ⟨tc_X5_layFault, ti_X5, by decide +kernel, by decide +kernel, by decide +kernel⟩
theorem tn_X5_layFault : Cond.instanceMethod yX5_layFault ∈ tw := tw_i 254 (by decide +kernel) (by decide +kernel)
theorem ts_X5_layFault : Cond.selects RX5 yX5_layFault yX5_layFault ∈ tw := tw_i 5 (by decide +kernel) (by decide +kernel)
theorem mi_X5_layFault : Mi mX5_layFault := ⟨tn_X5_layFault, ts_X5_layFault⟩
abbrev mX5_canFold : Mb := (yX5_canFold, cX5_canFold, 5, (some .boolean))
set_option maxRecDepth 100000 in
theorem tc_X5_canFold : Cond.code yX5_canFold cX5_canFold 5 (some .boolean) ∈ tw := tw_i 367 rfl rfl
theorem mw_X5_canFold : Mw mX5_canFold 4 := ⟨tc_X5_canFold, ti_X5, by decide +kernel, by decide +kernel, by decide +kernel⟩
theorem tn_X5_canFold : Cond.instanceMethod yX5_canFold ∈ tw := tw_i 366 (by decide +kernel) (by decide +kernel)
theorem ts_X5_canFold : Cond.selects RX5 yX5_canFold yX5_canFold ∈ tw := tw_i 19 (by decide +kernel) (by decide +kernel)
theorem mi_X5_canFold : Mi mX5_canFold := ⟨tn_X5_canFold, ts_X5_canFold⟩
abbrev mX5_smallRingFault : Mb := (yX5_smallRingFault, cX5_smallRingFault, 1, (some .int))
set_option maxRecDepth 100000 in
theorem tc_X5_smallRingFault : Cond.code yX5_smallRingFault cX5_smallRingFault 1 (some .int) ∈ tw := tw_i 420 rfl rfl
theorem mw_X5_smallRingFault : Mw mX5_smallRingFault 0 := ⟨tc_X5_smallRingFault, ti_X5, by decide +kernel, by decide +kernel, by decide +kernel⟩
theorem tn_X5_smallRingFault : Cond.instanceMethod yX5_smallRingFault ∈ tw := tw_i 419 (by decide +kernel) (by decide +kernel)
theorem ts_X5_smallRingFault : Cond.selects RX5 yX5_smallRingFault yX5_smallRingFault ∈ tw := tw_i 20 (by decide +kernel) (by decide +kernel)
theorem mi_X5_smallRingFault : Mi mX5_smallRingFault := ⟨tn_X5_smallRingFault, ts_X5_smallRingFault⟩
abbrev mX5_rowsFault : Mb := (yX5_rowsFault, cX5_rowsFault, 3, (some .int))
set_option maxRecDepth 100000 in
theorem tc_X5_rowsFault : Cond.code yX5_rowsFault cX5_rowsFault 3 (some .int) ∈ tw := tw_i 583 rfl rfl
theorem mw_X5_rowsFault : Mw mX5_rowsFault 2 := ⟨tc_X5_rowsFault, ti_X5, by decide +kernel, by decide +kernel, by decide +kernel⟩
theorem tn_X5_rowsFault : Cond.instanceMethod yX5_rowsFault ∈ tw := tw_i 582 (by decide +kernel) (by decide +kernel)
theorem ts_X5_rowsFault : Cond.selects RX5 yX5_rowsFault yX5_rowsFault ∈ tw := tw_i 42 (by decide +kernel) (by decide +kernel)
theorem mi_X5_rowsFault : Mi mX5_rowsFault := ⟨tn_X5_rowsFault, ts_X5_rowsFault⟩
abbrev mX5_isPrime : Mb := (yX5_isPrime, cX5_isPrime, 2, (some .boolean))
set_option maxRecDepth 100000 in
theorem tc_X5_isPrime : Cond.code yX5_isPrime cX5_isPrime 2 (some .boolean) ∈ tw := tw_i 383 rfl rfl
theorem mw_X5_isPrime : Mw mX5_isPrime 1 := ⟨tc_X5_isPrime, ti_X5, by decide +kernel, by decide +kernel, by decide +kernel⟩
theorem ms_X5_isPrime : Cond.static yX5_isPrime ∈ tw := tw_i 382 (by decide +kernel) (by decide +kernel)
abbrev mX5_isRestPrime : Mb := (yX5_isRestPrime, cX5_isRestPrime, 1, (some .boolean))
set_option maxRecDepth 100000 in
theorem tc_X5_isRestPrime : Cond.code yX5_isRestPrime cX5_isRestPrime 1 (some .boolean) ∈ tw := tw_i 380 rfl rfl
theorem mw_X5_isRestPrime : Mw mX5_isRestPrime 1 := ⟨tc_X5_isRestPrime, ti_X5, by decide +kernel, by decide +kernel, by decide +kernel⟩
theorem ms_X5_isRestPrime : Cond.static yX5_isRestPrime ∈ tw := tw_i 379 (by decide +kernel) (by decide +kernel)
abbrev mX5_isTwinPrime : Mb := (yX5_isTwinPrime, cX5_isTwinPrime, 1, (some .boolean))
set_option maxRecDepth 100000 in
theorem tc_X5_isTwinPrime : Cond.code yX5_isTwinPrime cX5_isTwinPrime 1 (some .boolean) ∈ tw := tw_i 393 rfl rfl
theorem mw_X5_isTwinPrime : Mw mX5_isTwinPrime 1 := ⟨tc_X5_isTwinPrime, ti_X5, by decide +kernel, by decide +kernel, by decide +kernel⟩
theorem ms_X5_isTwinPrime : Cond.static yX5_isTwinPrime ∈ tw := tw_i 392 (by decide +kernel) (by decide +kernel)
abbrev mX5_isSquare : Mb := (yX5_isSquare, cX5_isSquare, 3, (some .boolean))
set_option maxRecDepth 100000 in
theorem tc_X5_isSquare : Cond.code yX5_isSquare cX5_isSquare 3 (some .boolean) ∈ tw := tw_i 386 rfl rfl
theorem mw_X5_isSquare : Mw mX5_isSquare 2 := ⟨tc_X5_isSquare, ti_X5, by decide +kernel, by decide +kernel, by decide +kernel⟩
theorem ms_X5_isSquare : Cond.static yX5_isSquare ∈ tw := tw_i 385 (by decide +kernel) (by decide +kernel)
abbrev mX5_nextState : Mb := (yX5_nextState, cX5_nextState, 4, (some .int))
set_option maxRecDepth 100000 in
theorem tc_X5_nextState : Cond.code yX5_nextState cX5_nextState 4 (some .int) ∈ tw := tw_i 406 rfl rfl
theorem mw_X5_nextState : Mw mX5_nextState 3 := ⟨tc_X5_nextState, ti_X5, by decide +kernel, by decide +kernel, by decide +kernel⟩
theorem ms_X5_nextState : Cond.static yX5_nextState ∈ tw := tw_i 405 (by decide +kernel) (by decide +kernel)
abbrev mX5_leastTaps : Mb := (yX5_leastTaps, cX5_leastTaps, 3, (some .int))
set_option maxRecDepth 100000 in
theorem tc_X5_leastTaps : Cond.code yX5_leastTaps cX5_leastTaps 3 (some .int) ∈ tw := tw_i 400 rfl rfl
theorem mw_X5_leastTaps : Mw mX5_leastTaps 2 := ⟨tc_X5_leastTaps, ti_X5, by decide +kernel, by decide +kernel, by decide +kernel⟩
theorem ms_X5_leastTaps : Cond.static yX5_leastTaps ∈ tw := tw_i 399 (by decide +kernel) (by decide +kernel)
abbrev mX5_stepsRound : Mb := (yX5_stepsRound, cX5_stepsRound, 6, (some .int))
set_option maxRecDepth 100000 in
theorem tc_X5_stepsRound : Cond.code yX5_stepsRound cX5_stepsRound 6 (some .int) ∈ tw := tw_i 403 rfl rfl
theorem mw_X5_stepsRound : Mw mX5_stepsRound 3 := ⟨tc_X5_stepsRound, ti_X5, by decide +kernel, by decide +kernel, by decide +kernel⟩
theorem ms_X5_stepsRound : Cond.static yX5_stepsRound ∈ tw := tw_i 402 (by decide +kernel) (by decide +kernel)
abbrev mX5_commonDivisor : Mb := (yX5_commonDivisor, cX5_commonDivisor, 11, (some .long))
set_option maxRecDepth 100000 in
theorem tc_X5_commonDivisor : Cond.code yX5_commonDivisor cX5_commonDivisor 11 (some .long) ∈ tw := tw_i 370 rfl rfl
theorem mw_X5_commonDivisor : Mw mX5_commonDivisor 2 := ⟨tc_X5_commonDivisor, ti_X5, by decide +kernel, by decide +kernel, by decide +kernel⟩
theorem ms_X5_commonDivisor : Cond.static yX5_commonDivisor ∈ tw := tw_i 369 (by decide +kernel) (by decide +kernel)
abbrev mX5_quotient : Mb := (yX5_quotient, cX5_quotient, 4, (some .long))
set_option maxRecDepth 100000 in
theorem tc_X5_quotient : Cond.code yX5_quotient cX5_quotient 4 (some .long) ∈ tw := tw_i 455 rfl rfl
theorem mw_X5_quotient : Mw mX5_quotient 2 := ⟨tc_X5_quotient, ti_X5, by decide +kernel, by decide +kernel, by decide +kernel⟩
theorem ms_X5_quotient : Cond.static yX5_quotient ∈ tw := tw_i 454 (by decide +kernel) (by decide +kernel)
abbrev mX6_thrown : Mb := (yX6_thrown, cX6_thrown, 1, (some .int))
set_option maxRecDepth 100000 in
theorem tc_X6_thrown : Cond.code yX6_thrown cX6_thrown 1 (some .int) ∈ tw := tw_i 766 rfl rfl
theorem mw_X6_thrown : Mw mX6_thrown 0 := ⟨tc_X6_thrown, ti_X6, by decide +kernel, by decide +kernel, by decide +kernel⟩
theorem tn_X6_thrown : Cond.instanceMethod yX6_thrown ∈ tw := tw_i 764 (by decide +kernel) (by decide +kernel)
theorem ts_X6_thrown : Cond.selects RX6 yX6_thrown yX6_thrown ∈ tw := tw_i 765 (by decide +kernel) (by decide +kernel)
theorem mi_X6_thrown : Mi mX6_thrown := ⟨tn_X6_thrown, ts_X6_thrown⟩
abbrev mX6_no : Mb := (yX6_no, cX6_no, 2, (some .int))
set_option maxRecDepth 100000 in
theorem tc_X6_no : Cond.code yX6_no cX6_no 2 (some .int) ∈ tw := tw_i 790 rfl rfl
theorem mw_X6_no : Mw mX6_no 1 := ⟨tc_X6_no, ti_X6, by decide +kernel, by decide +kernel, by decide +kernel⟩
theorem tn_X6_no : Cond.instanceMethod yX6_no ∈ tw := tw_i 789 (by decide +kernel) (by decide +kernel)
theorem ts_X6_no : Cond.selects RX6 yX6_no yX6_no ∈ tw := tw_i 51 (by decide +kernel) (by decide +kernel)
theorem mi_X6_no : Mi mX6_no := ⟨tn_X6_no, ts_X6_no⟩
abbrev mX6_not : Mb := (yX6_not, cX6_not, 2, (some .boolean))
set_option maxRecDepth 100000 in
theorem tc_X6_not : Cond.code yX6_not cX6_not 2 (some .boolean) ∈ tw := tw_i 778 rfl rfl
theorem mw_X6_not : Mw mX6_not 1 := ⟨tc_X6_not, ti_X6, by decide +kernel, by decide +kernel, by decide +kernel⟩
theorem tn_X6_not : Cond.instanceMethod yX6_not ∈ tw := tw_i 777 (by decide +kernel) (by decide +kernel)
theorem ts_X6_not : Cond.selects RX6 yX6_not yX6_not ∈ tw := tw_i 49 (by decide +kernel) (by decide +kernel)
theorem mi_X6_not : Mi mX6_not := ⟨tn_X6_not, ts_X6_not⟩
abbrev mX6_start : Mb := (yX6_start, cX6_start, 1, none)
set_option maxRecDepth 100000 in
theorem tc_X6_start : Cond.code yX6_start cX6_start 1 none ∈ tw := tw_i 774 rfl rfl
theorem mw_X6_start : Mw mX6_start 0 := ⟨tc_X6_start, ti_X6, by decide +kernel, by decide +kernel, by decide +kernel⟩
theorem tn_X6_start : Cond.instanceMethod yX6_start ∈ tw := tw_i 773 (by decide +kernel) (by decide +kernel)
theorem ts_X6_start : Cond.selects RX6 yX6_start yX6_start ∈ tw := tw_i 48 (by decide +kernel) (by decide +kernel)
theorem mi_X6_start : Mi mX6_start := ⟨tn_X6_start, ts_X6_start⟩
abbrev mX6_isPlace : Mb := (yX6_isPlace, cX6_isPlace, 2, (some .boolean))
set_option maxRecDepth 100000 in
theorem tc_X6_isPlace : Cond.code yX6_isPlace cX6_isPlace 2 (some .boolean) ∈ tw := tw_i 814 rfl rfl
theorem mw_X6_isPlace : Mw mX6_isPlace 1 := ⟨tc_X6_isPlace, ti_X6, by decide +kernel, by decide +kernel, by decide +kernel⟩
theorem tn_X6_isPlace : Cond.instanceMethod yX6_isPlace ∈ tw := tw_i 813 (by decide +kernel) (by decide +kernel)
theorem ts_X6_isPlace : Cond.selects RX6 yX6_isPlace yX6_isPlace ∈ tw := tw_i 53 (by decide +kernel) (by decide +kernel)
theorem mi_X6_isPlace : Mi mX6_isPlace := ⟨tn_X6_isPlace, ts_X6_isPlace⟩
abbrev mX6_begin : Mb := (yX6_begin, cX6_begin, 3, none)
set_option maxRecDepth 100000 in
theorem tc_X6_begin : Cond.code yX6_begin cX6_begin 3 none ∈ tw := tw_i 782 rfl rfl
theorem mw_X6_begin : Mw mX6_begin 1 := ⟨tc_X6_begin, ti_X6, by decide +kernel, by decide +kernel, by decide +kernel⟩
theorem tn_X6_begin : Cond.instanceMethod yX6_begin ∈ tw := tw_i 781 (by decide +kernel) (by decide +kernel)
theorem ts_X6_begin : Cond.selects RX6 yX6_begin yX6_begin ∈ tw := tw_i 50 (by decide +kernel) (by decide +kernel)
theorem mi_X6_begin : Mi mX6_begin := ⟨tn_X6_begin, ts_X6_begin⟩
abbrev mX6_ring : Mb := (yX6_ring, cX6_ring, 2, (some .boolean))
set_option maxRecDepth 100000 in
theorem tc_X6_ring : Cond.code yX6_ring cX6_ring 2 (some .boolean) ∈ tw := tw_i 770 rfl rfl
theorem mw_X6_ring : Mw mX6_ring 1 := ⟨tc_X6_ring, ti_X6, by decide +kernel, by decide +kernel, by decide +kernel⟩
theorem tn_X6_ring : Cond.instanceMethod yX6_ring ∈ tw := tw_i 768 (by decide +kernel) (by decide +kernel)
theorem ts_X6_ring : Cond.selects RX6 yX6_ring yX6_ring ∈ tw := tw_i 769 (by decide +kernel) (by decide +kernel)
theorem mi_X6_ring : Mi mX6_ring := ⟨tn_X6_ring, ts_X6_ring⟩
abbrev mX6_sheet : Mb := (yX6_sheet, cX6_sheet, 4, (some .int))
set_option maxRecDepth 100000 in
theorem tc_X6_sheet : Cond.code yX6_sheet cX6_sheet 4 (some .int) ∈ tw := tw_i 786 rfl rfl
theorem mw_X6_sheet : Mw mX6_sheet 2 := ⟨tc_X6_sheet, ti_X6, by decide +kernel, by decide +kernel, by decide +kernel⟩
theorem tn_X6_sheet : Cond.instanceMethod yX6_sheet ∈ tw := tw_i 784 (by decide +kernel) (by decide +kernel)
theorem ts_X6_sheet : Cond.selects RX6 yX6_sheet yX6_sheet ∈ tw := tw_i 785 (by decide +kernel) (by decide +kernel)
theorem mi_X6_sheet : Mi mX6_sheet := ⟨tn_X6_sheet, ts_X6_sheet⟩
abbrev mX6_entry : Mb := (yX6_entry, cX6_entry, 4, (some .boolean))
set_option maxRecDepth 100000 in
theorem tc_X6_entry : Cond.code yX6_entry cX6_entry 4 (some .boolean) ∈ tw := tw_i 794 rfl rfl
theorem mw_X6_entry : Mw mX6_entry 2 := ⟨tc_X6_entry, ti_X6, by decide +kernel, by decide +kernel, by decide +kernel⟩
theorem tn_X6_entry : Cond.instanceMethod yX6_entry ∈ tw := tw_i 792 (by decide +kernel) (by decide +kernel)
theorem ts_X6_entry : Cond.selects RX6 yX6_entry yX6_entry ∈ tw := tw_i 793 (by decide +kernel) (by decide +kernel)
theorem mi_X6_entry : Mi mX6_entry := ⟨tn_X6_entry, ts_X6_entry⟩
abbrev mX6_most : Mb := (yX6_most, cX6_most, 1, (some .int))
set_option maxRecDepth 100000 in
theorem tc_X6_most : Cond.code yX6_most cX6_most 1 (some .int) ∈ tw := tw_i 801 rfl rfl
theorem mw_X6_most : Mw mX6_most 1 := ⟨tc_X6_most, ti_X6, by decide +kernel, by decide +kernel, by decide +kernel⟩
theorem ms_X6_most : Cond.static yX6_most ∈ tw := tw_i 800 (by decide +kernel) (by decide +kernel)
abbrev mX6_lay : Mb := (yX6_lay, cX6_lay, 3, (some .boolean))
set_option maxRecDepth 100000 in
theorem tc_X6_lay : Cond.code yX6_lay cX6_lay 3 (some .boolean) ∈ tw := tw_i 798 rfl rfl
theorem mw_X6_lay : Mw mX6_lay 1 := ⟨tc_X6_lay, ti_X6, by decide +kernel, by decide +kernel, by decide +kernel⟩
theorem tn_X6_lay : Cond.instanceMethod yX6_lay ∈ tw := tw_i 796 (by decide +kernel) (by decide +kernel)
theorem ts_X6_lay : Cond.selects RX6 yX6_lay yX6_lay ∈ tw := tw_i 797 (by decide +kernel) (by decide +kernel)
theorem mi_X6_lay : Mi mX6_lay := ⟨tn_X6_lay, ts_X6_lay⟩
abbrev mX6_put : Mb := (yX6_put, cX6_put, 4, none)
set_option maxRecDepth 100000 in
theorem tc_X6_put : Cond.code yX6_put cX6_put 4 none ∈ tw := tw_i 806 rfl rfl
theorem mw_X6_put : Mw mX6_put 3 := ⟨tc_X6_put, ti_X6, by decide +kernel, by decide +kernel, by decide +kernel⟩
theorem tn_X6_put : Cond.instanceMethod yX6_put ∈ tw := tw_i 805 (by decide +kernel) (by decide +kernel)
theorem ts_X6_put : Cond.selects RX6 yX6_put yX6_put ∈ tw := tw_i 52 (by decide +kernel) (by decide +kernel)
theorem mi_X6_put : Mi mX6_put := ⟨tn_X6_put, ts_X6_put⟩
abbrev mX6_set : Mb := (yX6_set, cX6_set, 4, (some .boolean))
set_option maxRecDepth 100000 in
theorem tc_X6_set : Cond.code yX6_set cX6_set 4 (some .boolean) ∈ tw := tw_i 810 rfl rfl
theorem mw_X6_set : Mw mX6_set 3 := ⟨tc_X6_set, ti_X6, by decide +kernel, by decide +kernel, by decide +kernel⟩
theorem tn_X6_set : Cond.instanceMethod yX6_set ∈ tw := tw_i 808 (by decide +kernel) (by decide +kernel)
theorem ts_X6_set : Cond.selects RX6 yX6_set yX6_set ∈ tw := tw_i 809 (by decide +kernel) (by decide +kernel)
theorem mi_X6_set : Mi mX6_set := ⟨tn_X6_set, ts_X6_set⟩
abbrev mX6_miss : Mb := (yX6_miss, cX6_miss, 2, (some .boolean))
set_option maxRecDepth 100000 in
theorem tc_X6_miss : Cond.code yX6_miss cX6_miss 2 (some .boolean) ∈ tw := tw_i 818 rfl rfl
theorem mw_X6_miss : Mw mX6_miss 1 := ⟨tc_X6_miss, ti_X6, by decide +kernel, by decide +kernel, by decide +kernel⟩
theorem tn_X6_miss : Cond.instanceMethod yX6_miss ∈ tw := tw_i 816 (by decide +kernel) (by decide +kernel)
theorem ts_X6_miss : Cond.selects RX6 yX6_miss yX6_miss ∈ tw := tw_i 817 (by decide +kernel) (by decide +kernel)
theorem mi_X6_miss : Mi mX6_miss := ⟨tn_X6_miss, ts_X6_miss⟩
abbrev mX6_at : Mb := (yX6_at, cX6_at, 3, (some .int))
set_option maxRecDepth 100000 in
theorem tc_X6_at : Cond.code yX6_at cX6_at 3 (some .int) ∈ tw := tw_i 822 rfl rfl
theorem mw_X6_at : Mw mX6_at 2 := ⟨tc_X6_at, ti_X6, by decide +kernel, by decide +kernel, by decide +kernel⟩
theorem tn_X6_at : Cond.instanceMethod yX6_at ∈ tw := tw_i 820 (by decide +kernel) (by decide +kernel)
theorem ts_X6_at : Cond.selects RX6 yX6_at yX6_at ∈ tw := tw_i 821 (by decide +kernel) (by decide +kernel)
theorem mi_X6_at : Mi mX6_at := ⟨tn_X6_at, ts_X6_at⟩
abbrev mX6_meetsAt : Mb := (yX6_meetsAt, cX6_meetsAt, 4, (some .int))
set_option maxRecDepth 100000 in
theorem tc_X6_meetsAt : Cond.code yX6_meetsAt cX6_meetsAt 4 (some .int) ∈ tw := tw_i 834 rfl rfl
theorem mw_X6_meetsAt : Mw mX6_meetsAt 1 := ⟨tc_X6_meetsAt, ti_X6, by decide +kernel, by decide +kernel, by decide +kernel⟩
theorem tn_X6_meetsAt : Cond.instanceMethod yX6_meetsAt ∈ tw := tw_i 833 (by decide +kernel) (by decide +kernel)
theorem ts_X6_meetsAt : Cond.selects RX6 yX6_meetsAt yX6_meetsAt ∈ tw := tw_i 55 (by decide +kernel) (by decide +kernel)
theorem mi_X6_meetsAt : Mi mX6_meetsAt := ⟨tn_X6_meetsAt, ts_X6_meetsAt⟩
abbrev mX6_firstOff : Mb := (yX6_firstOff, cX6_firstOff, 2, (some .int))
set_option maxRecDepth 100000 in
theorem tc_X6_firstOff : Cond.code yX6_firstOff cX6_firstOff 2 (some .int) ∈ tw := tw_i 830 rfl rfl
theorem mw_X6_firstOff : Mw mX6_firstOff 0 := ⟨tc_X6_firstOff, ti_X6, by decide +kernel, by decide +kernel, by decide +kernel⟩
theorem tn_X6_firstOff : Cond.instanceMethod yX6_firstOff ∈ tw := tw_i 829 (by decide +kernel) (by decide +kernel)
theorem ts_X6_firstOff : Cond.selects RX6 yX6_firstOff yX6_firstOff ∈ tw := tw_i 54 (by decide +kernel) (by decide +kernel)
theorem mi_X6_firstOff : Mi mX6_firstOff := ⟨tn_X6_firstOff, ts_X6_firstOff⟩
abbrev mX6_count : Mb := (yX6_count, cX6_count, 4, (some .int))
set_option maxRecDepth 100000 in
theorem tc_X6_count : Cond.code yX6_count cX6_count 4 (some .int) ∈ tw := tw_i 826 rfl rfl
theorem mw_X6_count : Mw mX6_count 1 := ⟨tc_X6_count, ti_X6, by decide +kernel, by decide +kernel, by decide +kernel⟩
theorem tn_X6_count : Cond.instanceMethod yX6_count ∈ tw := tw_i 824 (by decide +kernel) (by decide +kernel)
theorem ts_X6_count : Cond.selects RX6 yX6_count yX6_count ∈ tw := tw_i 825 (by decide +kernel) (by decide +kernel)
theorem mi_X6_count : Mi mX6_count := ⟨tn_X6_count, ts_X6_count⟩
abbrev mX6_shadowAt : Mb := (yX6_shadowAt, cX6_shadowAt, 4, (some .int))
set_option maxRecDepth 100000 in
theorem tc_X6_shadowAt : Cond.code yX6_shadowAt cX6_shadowAt 4 (some .int) ∈ tw := tw_i 842 rfl rfl
theorem mw_X6_shadowAt : Mw mX6_shadowAt 1 := ⟨tc_X6_shadowAt, ti_X6, by decide +kernel, by decide +kernel, by decide +kernel⟩
theorem tn_X6_shadowAt : Cond.instanceMethod yX6_shadowAt ∈ tw := tw_i 841 (by decide +kernel) (by decide +kernel)
theorem ts_X6_shadowAt : Cond.selects RX6 yX6_shadowAt yX6_shadowAt ∈ tw := tw_i 56 (by decide +kernel) (by decide +kernel)
theorem mi_X6_shadowAt : Mi mX6_shadowAt := ⟨tn_X6_shadowAt, ts_X6_shadowAt⟩
abbrev mX6_shadow : Mb := (yX6_shadow, cX6_shadow, 2, (some .int))
set_option maxRecDepth 100000 in
theorem tc_X6_shadow : Cond.code yX6_shadow cX6_shadow 2 (some .int) ∈ tw := tw_i 838 rfl rfl
theorem mw_X6_shadow : Mw mX6_shadow 1 := ⟨tc_X6_shadow, ti_X6, by decide +kernel, by decide +kernel, by decide +kernel⟩
theorem tn_X6_shadow : Cond.instanceMethod yX6_shadow ∈ tw := tw_i 836 (by decide +kernel) (by decide +kernel)
theorem ts_X6_shadow : Cond.selects RX6 yX6_shadow yX6_shadow ∈ tw := tw_i 837 (by decide +kernel) (by decide +kernel)
theorem mi_X6_shadow : Mi mX6_shadow := ⟨tn_X6_shadow, ts_X6_shadow⟩
abbrev mX6_cast : Mb := (yX6_cast, cX6_cast, 2, (some .boolean))
set_option maxRecDepth 100000 in
theorem tc_X6_cast : Cond.code yX6_cast cX6_cast 2 (some .boolean) ∈ tw := tw_i 846 rfl rfl
theorem mw_X6_cast : Mw mX6_cast 0 := ⟨tc_X6_cast, ti_X6, by decide +kernel, by decide +kernel, by decide +kernel⟩
theorem tn_X6_cast : Cond.instanceMethod yX6_cast ∈ tw := tw_i 844 (by decide +kernel) (by decide +kernel)
theorem ts_X6_cast : Cond.selects RX6 yX6_cast yX6_cast ∈ tw := tw_i 845 (by decide +kernel) (by decide +kernel)
theorem mi_X6_cast : Mi mX6_cast := ⟨tn_X6_cast, ts_X6_cast⟩
abbrev mX6_meets : Mb := (yX6_meets, cX6_meets, 2, (some .int))
set_option maxRecDepth 100000 in
theorem tc_X6_meets : Cond.code yX6_meets cX6_meets 2 (some .int) ∈ tw := tw_i 850 rfl rfl
theorem mw_X6_meets : Mw mX6_meets 1 := ⟨tc_X6_meets, ti_X6, by decide +kernel, by decide +kernel, by decide +kernel⟩
theorem tn_X6_meets : Cond.instanceMethod yX6_meets ∈ tw := tw_i 848 (by decide +kernel) (by decide +kernel)
theorem ts_X6_meets : Cond.selects RX6 yX6_meets yX6_meets ∈ tw := tw_i 849 (by decide +kernel) (by decide +kernel)
theorem mi_X6_meets : Mi mX6_meets := ⟨tn_X6_meets, ts_X6_meets⟩
abbrev mX6_off : Mb := (yX6_off, cX6_off, 1, (some .int))
set_option maxRecDepth 100000 in
theorem tc_X6_off : Cond.code yX6_off cX6_off 1 (some .int) ∈ tw := tw_i 854 rfl rfl
theorem mw_X6_off : Mw mX6_off 0 := ⟨tc_X6_off, ti_X6, by decide +kernel, by decide +kernel, by decide +kernel⟩
theorem tn_X6_off : Cond.instanceMethod yX6_off ∈ tw := tw_i 852 (by decide +kernel) (by decide +kernel)
theorem ts_X6_off : Cond.selects RX6 yX6_off yX6_off ∈ tw := tw_i 853 (by decide +kernel) (by decide +kernel)
theorem mi_X6_off : Mi mX6_off := ⟨tn_X6_off, ts_X6_off⟩
abbrev mX6_turn : Mb := (yX6_turn, cX6_turn, 4, (some .boolean))
set_option maxRecDepth 100000 in
theorem tc_X6_turn : Cond.code yX6_turn cX6_turn 4 (some .boolean) ∈ tw := tw_i 858 rfl rfl
theorem mw_X6_turn : Mw mX6_turn 1 := ⟨tc_X6_turn, ti_X6, by decide +kernel, by decide +kernel, by decide +kernel⟩
theorem tn_X6_turn : Cond.instanceMethod yX6_turn ∈ tw := tw_i 856 (by decide +kernel) (by decide +kernel)
theorem ts_X6_turn : Cond.selects RX6 yX6_turn yX6_turn ∈ tw := tw_i 857 (by decide +kernel) (by decide +kernel)
theorem mi_X6_turn : Mi mX6_turn := ⟨tn_X6_turn, ts_X6_turn⟩
abbrev mX6_anti : Mb := (yX6_anti, cX6_anti, 2, (some .boolean))
set_option maxRecDepth 100000 in
theorem tc_X6_anti : Cond.code yX6_anti cX6_anti 2 (some .boolean) ∈ tw := tw_i 862 rfl rfl
theorem mw_X6_anti : Mw mX6_anti 0 := ⟨tc_X6_anti, ti_X6, by decide +kernel, by decide +kernel, by decide +kernel⟩
theorem tn_X6_anti : Cond.instanceMethod yX6_anti ∈ tw := tw_i 860 (by decide +kernel) (by decide +kernel)
theorem ts_X6_anti : Cond.selects RX6 yX6_anti yX6_anti ∈ tw := tw_i 861 (by decide +kernel) (by decide +kernel)
theorem mi_X6_anti : Mi mX6_anti := ⟨tn_X6_anti, ts_X6_anti⟩
abbrev mX6_common : Mb := (yX6_common, cX6_common, 5, (some .int))
set_option maxRecDepth 100000 in
theorem tc_X6_common : Cond.code yX6_common cX6_common 5 (some .int) ∈ tw := tw_i 869 rfl rfl
theorem mw_X6_common : Mw mX6_common 2 := ⟨tc_X6_common, ti_X6, by decide +kernel, by decide +kernel, by decide +kernel⟩
theorem ms_X6_common : Cond.static yX6_common ∈ tw := tw_i 868 (by decide +kernel) (by decide +kernel)
abbrev mX6_fold : Mb := (yX6_fold, cX6_fold, 6, (some .int))
set_option maxRecDepth 100000 in
theorem tc_X6_fold : Cond.code yX6_fold cX6_fold 6 (some .int) ∈ tw := tw_i 866 rfl rfl
theorem mw_X6_fold : Mw mX6_fold 4 := ⟨tc_X6_fold, ti_X6, by decide +kernel, by decide +kernel, by decide +kernel⟩
theorem tn_X6_fold : Cond.instanceMethod yX6_fold ∈ tw := tw_i 864 (by decide +kernel) (by decide +kernel)
theorem ts_X6_fold : Cond.selects RX6 yX6_fold yX6_fold ∈ tw := tw_i 865 (by decide +kernel) (by decide +kernel)
theorem mi_X6_fold : Mi mX6_fold := ⟨tn_X6_fold, ts_X6_fold⟩
abbrev mX6_isPrime : Mb := (yX6_isPrime, cX6_isPrime, 2, (some .boolean))
set_option maxRecDepth 100000 in
theorem tc_X6_isPrime : Cond.code yX6_isPrime cX6_isPrime 2 (some .boolean) ∈ tw := tw_i 876 rfl rfl
theorem mw_X6_isPrime : Mw mX6_isPrime 1 := ⟨tc_X6_isPrime, ti_X6, by decide +kernel, by decide +kernel, by decide +kernel⟩
theorem ms_X6_isPrime : Cond.static yX6_isPrime ∈ tw := tw_i 875 (by decide +kernel) (by decide +kernel)
abbrev mX6_isSquare : Mb := (yX6_isSquare, cX6_isSquare, 4, (some .boolean))
set_option maxRecDepth 100000 in
theorem tc_X6_isSquare : Cond.code yX6_isSquare cX6_isSquare 4 (some .boolean) ∈ tw := tw_i 879 rfl rfl
theorem mw_X6_isSquare : Mw mX6_isSquare 2 := ⟨tc_X6_isSquare, ti_X6, by decide +kernel, by decide +kernel, by decide +kernel⟩
theorem ms_X6_isSquare : Cond.static yX6_isSquare ∈ tw := tw_i 878 (by decide +kernel) (by decide +kernel)
abbrev mX6_holes : Mb := (yX6_holes, cX6_holes, 3, (some .int))
set_option maxRecDepth 100000 in
theorem tc_X6_holes : Cond.code yX6_holes cX6_holes 3 (some .int) ∈ tw := tw_i 883 rfl rfl
theorem mw_X6_holes : Mw mX6_holes 0 := ⟨tc_X6_holes, ti_X6, by decide +kernel, by decide +kernel, by decide +kernel⟩
theorem tn_X6_holes : Cond.instanceMethod yX6_holes ∈ tw := tw_i 882 (by decide +kernel) (by decide +kernel)
theorem ts_X6_holes : Cond.selects RX6 yX6_holes yX6_holes ∈ tw := tw_i 57 (by decide +kernel) (by decide +kernel)
theorem mi_X6_holes : Mi mX6_holes := ⟨tn_X6_holes, ts_X6_holes⟩
abbrev mX6_rests : Mb := (yX6_rests, cX6_rests, 3, (some .int))
set_option maxRecDepth 100000 in
theorem tc_X6_rests : Cond.code yX6_rests cX6_rests 3 (some .int) ∈ tw := tw_i 873 rfl rfl
theorem mw_X6_rests : Mw mX6_rests 1 := ⟨tc_X6_rests, ti_X6, by decide +kernel, by decide +kernel, by decide +kernel⟩
theorem tn_X6_rests : Cond.instanceMethod yX6_rests ∈ tw := tw_i 871 (by decide +kernel) (by decide +kernel)
theorem ts_X6_rests : Cond.selects RX6 yX6_rests yX6_rests ∈ tw := tw_i 872 (by decide +kernel) (by decide +kernel)
theorem mi_X6_rests : Mi mX6_rests := ⟨tn_X6_rests, ts_X6_rests⟩
abbrev mX6_twins : Mb := (yX6_twins, cX6_twins, 5, (some .int))
set_option maxRecDepth 100000 in
theorem tc_X6_twins : Cond.code yX6_twins cX6_twins 5 (some .int) ∈ tw := tw_i 887 rfl rfl
theorem mw_X6_twins : Mw mX6_twins 1 := ⟨tc_X6_twins, ti_X6, by decide +kernel, by decide +kernel, by decide +kernel⟩
theorem tn_X6_twins : Cond.instanceMethod yX6_twins ∈ tw := tw_i 885 (by decide +kernel) (by decide +kernel)
theorem ts_X6_twins : Cond.selects RX6 yX6_twins yX6_twins ∈ tw := tw_i 886 (by decide +kernel) (by decide +kernel)
theorem mi_X6_twins : Mi mX6_twins := ⟨tn_X6_twins, ts_X6_twins⟩
abbrev mX6_round : Mb := (yX6_round, cX6_round, 8, (some .int))
set_option maxRecDepth 100000 in
theorem tc_X6_round : Cond.code yX6_round cX6_round 8 (some .int) ∈ tw := tw_i 895 rfl rfl
theorem mw_X6_round : Mw mX6_round 4 := ⟨tc_X6_round, ti_X6, by decide +kernel, by decide +kernel, by decide +kernel⟩
theorem tn_X6_round : Cond.instanceMethod yX6_round ∈ tw := tw_i 894 (by decide +kernel) (by decide +kernel)
theorem ts_X6_round : Cond.selects RX6 yX6_round yX6_round ∈ tw := tw_i 58 (by decide +kernel) (by decide +kernel)
theorem mi_X6_round : Mi mX6_round := ⟨tn_X6_round, ts_X6_round⟩
abbrev mX6_shift : Mb := (yX6_shift, cX6_shift, 4, (some .int))
set_option maxRecDepth 100000 in
theorem tc_X6_shift : Cond.code yX6_shift cX6_shift 4 (some .int) ∈ tw := tw_i 891 rfl rfl
theorem mw_X6_shift : Mw mX6_shift 1 := ⟨tc_X6_shift, ti_X6, by decide +kernel, by decide +kernel, by decide +kernel⟩
theorem tn_X6_shift : Cond.instanceMethod yX6_shift ∈ tw := tw_i 889 (by decide +kernel) (by decide +kernel)
theorem ts_X6_shift : Cond.selects RX6 yX6_shift yX6_shift ∈ tw := tw_i 890 (by decide +kernel) (by decide +kernel)
theorem mi_X6_shift : Mi mX6_shift := ⟨tn_X6_shift, ts_X6_shift⟩
abbrev mX6_down : Mb := (yX6_down, cX6_down, 15, (some .int))
set_option maxRecDepth 100000 in
theorem tc_X6_down : Cond.code yX6_down cX6_down 15 (some .int) ∈ tw := tw_i 908 rfl rfl
theorem mw_X6_down : Mw mX6_down 3 := ⟨tc_X6_down, ti_X6, by decide +kernel, by decide +kernel, by decide +kernel⟩
theorem tn_X6_down : Cond.instanceMethod yX6_down ∈ tw := tw_i 907 (by decide +kernel) (by decide +kernel)
theorem ts_X6_down : Cond.selects RX6 yX6_down yX6_down ∈ tw := tw_i 60 (by decide +kernel) (by decide +kernel)
theorem mi_X6_down : Mi mX6_down := ⟨tn_X6_down, ts_X6_down⟩
abbrev mX6_gcd : Mb := (yX6_gcd, cX6_gcd, 10, (some .long))
set_option maxRecDepth 100000 in
theorem tc_X6_gcd : Cond.code yX6_gcd cX6_gcd 10 (some .long) ∈ tw := tw_i 911 rfl rfl
theorem mw_X6_gcd : Mw mX6_gcd 2 := ⟨tc_X6_gcd, ti_X6, by decide +kernel, by decide +kernel, by decide +kernel⟩
theorem ms_X6_gcd : Cond.static yX6_gcd ∈ tw := tw_i 910 (by decide +kernel) (by decide +kernel)
abbrev mX6_solveBack : Mb := (yX6_solveBack, cX6_solveBack, 5, (some .boolean))
set_option maxRecDepth 100000 in
theorem tc_X6_solveBack : Cond.code yX6_solveBack cX6_solveBack 5 (some .boolean) ∈ tw := tw_i 904 rfl rfl
theorem mw_X6_solveBack : Mw mX6_solveBack 0 := ⟨tc_X6_solveBack, ti_X6, by decide +kernel, by decide +kernel, by decide +kernel⟩
theorem tn_X6_solveBack : Cond.instanceMethod yX6_solveBack ∈ tw := tw_i 903 (by decide +kernel) (by decide +kernel)
theorem ts_X6_solveBack : Cond.selects RX6 yX6_solveBack yX6_solveBack ∈ tw := tw_i 59 (by decide +kernel) (by decide +kernel)
theorem mi_X6_solveBack : Mi mX6_solveBack := ⟨tn_X6_solveBack, ts_X6_solveBack⟩
abbrev mX6_undo : Mb := (yX6_undo, cX6_undo, 2, (some .long))
set_option maxRecDepth 100000 in
theorem tc_X6_undo : Cond.code yX6_undo cX6_undo 2 (some .long) ∈ tw := tw_i 900 rfl rfl
theorem mw_X6_undo : Mw mX6_undo 0 := ⟨tc_X6_undo, ti_X6, by decide +kernel, by decide +kernel, by decide +kernel⟩
theorem tn_X6_undo : Cond.instanceMethod yX6_undo ∈ tw := tw_i 898 (by decide +kernel) (by decide +kernel)
theorem ts_X6_undo : Cond.selects RX6 yX6_undo yX6_undo ∈ tw := tw_i 899 (by decide +kernel) (by decide +kernel)
theorem mi_X6_undo : Mi mX6_undo := ⟨tn_X6_undo, ts_X6_undo⟩
abbrev mX6_back : Mb := (yX6_back, cX6_back, 2, (some .long))
set_option maxRecDepth 100000 in
theorem tc_X6_back : Cond.code yX6_back cX6_back 2 (some .long) ∈ tw := tw_i 915 rfl rfl
theorem mw_X6_back : Mw mX6_back 1 := ⟨tc_X6_back, ti_X6, by decide +kernel, by decide +kernel, by decide +kernel⟩
theorem tn_X6_back : Cond.instanceMethod yX6_back ∈ tw := tw_i 913 (by decide +kernel) (by decide +kernel)
theorem ts_X6_back : Cond.selects RX6 yX6_back yX6_back ∈ tw := tw_i 914 (by decide +kernel) (by decide +kernel)
theorem mi_X6_back : Mi mX6_back := ⟨tn_X6_back, ts_X6_back⟩
abbrev mX6_noise : Mb := (yX6_noise, cX6_noise, 8, (some .long))
set_option maxRecDepth 100000 in
theorem tc_X6_noise : Cond.code yX6_noise cX6_noise 8 (some .long) ∈ tw := tw_i 919 rfl rfl
theorem mw_X6_noise : Mw mX6_noise 1 := ⟨tc_X6_noise, ti_X6, by decide +kernel, by decide +kernel, by decide +kernel⟩
theorem tn_X6_noise : Cond.instanceMethod yX6_noise ∈ tw := tw_i 917 (by decide +kernel) (by decide +kernel)
theorem ts_X6_noise : Cond.selects RX6 yX6_noise yX6_noise ∈ tw := tw_i 918 (by decide +kernel) (by decide +kernel)
theorem mi_X6_noise : Mi mX6_noise := ⟨tn_X6_noise, ts_X6_noise⟩
abbrev mX6_layShadow : Mb := (yX6_layShadow, cX6_layShadow, 7, (some .int))
set_option maxRecDepth 100000 in
theorem tc_X6_layShadow : Cond.code yX6_layShadow cX6_layShadow 7 (some .int) ∈ tw := tw_i 927 rfl rfl
theorem mw_X6_layShadow : Mw mX6_layShadow 3 := ⟨tc_X6_layShadow, ti_X6, by decide +kernel, by decide +kernel, by decide +kernel⟩
theorem tn_X6_layShadow : Cond.instanceMethod yX6_layShadow ∈ tw := tw_i 926 (by decide +kernel) (by decide +kernel)
theorem ts_X6_layShadow : Cond.selects RX6 yX6_layShadow yX6_layShadow ∈ tw := tw_i 61 (by decide +kernel) (by decide +kernel)
theorem mi_X6_layShadow : Mi mX6_layShadow := ⟨tn_X6_layShadow, ts_X6_layShadow⟩
abbrev mX6_rank : Mb := (yX6_rank, cX6_rank, 1, (some .int))
set_option maxRecDepth 100000 in
theorem tc_X6_rank : Cond.code yX6_rank cX6_rank 1 (some .int) ∈ tw := tw_i 923 rfl rfl
theorem mw_X6_rank : Mw mX6_rank 0 := ⟨tc_X6_rank, ti_X6, by decide +kernel, by decide +kernel, by decide +kernel⟩
theorem tn_X6_rank : Cond.instanceMethod yX6_rank ∈ tw := tw_i 921 (by decide +kernel) (by decide +kernel)
theorem ts_X6_rank : Cond.selects RX6 yX6_rank yX6_rank ∈ tw := tw_i 922 (by decide +kernel) (by decide +kernel)
theorem mi_X6_rank : Mi mX6_rank := ⟨tn_X6_rank, ts_X6_rank⟩
abbrev mX6_sure : Mb := (yX6_sure, cX6_sure, 1, (some .int))
set_option maxRecDepth 100000 in
theorem tc_X6_sure : Cond.code yX6_sure cX6_sure 1 (some .int) ∈ tw := tw_i 931 rfl rfl
theorem mw_X6_sure : Mw mX6_sure 0 := ⟨tc_X6_sure, ti_X6, by decide +kernel, by decide +kernel, by decide +kernel⟩
theorem tn_X6_sure : Cond.instanceMethod yX6_sure ∈ tw := tw_i 929 (by decide +kernel) (by decide +kernel)
theorem ts_X6_sure : Cond.selects RX6 yX6_sure yX6_sure ∈ tw := tw_i 930 (by decide +kernel) (by decide +kernel)
theorem mi_X6_sure : Mi mX6_sure := ⟨tn_X6_sure, ts_X6_sure⟩
abbrev mX6_lost : Mb := (yX6_lost, cX6_lost, 9, (some .int))
set_option maxRecDepth 100000 in
theorem tc_X6_lost : Cond.code yX6_lost cX6_lost 9 (some .int) ∈ tw := tw_i 935 rfl rfl
theorem mw_X6_lost : Mw mX6_lost 0 := ⟨tc_X6_lost, ti_X6, by decide +kernel, by decide +kernel, by decide +kernel⟩
theorem tn_X6_lost : Cond.instanceMethod yX6_lost ∈ tw := tw_i 933 (by decide +kernel) (by decide +kernel)
theorem ts_X6_lost : Cond.selects RX6 yX6_lost yX6_lost ∈ tw := tw_i 934 (by decide +kernel) (by decide +kernel)
theorem mi_X6_lost : Mi mX6_lost := ⟨tn_X6_lost, ts_X6_lost⟩
abbrev mX6_solve : Mb := (yX6_solve, cX6_solve, 6, (some .int))
set_option maxRecDepth 100000 in
theorem tc_X6_solve : Cond.code yX6_solve cX6_solve 6 (some .int) ∈ tw := tw_i 939 rfl rfl
theorem mw_X6_solve : Mw mX6_solve 0 := ⟨tc_X6_solve, ti_X6, by decide +kernel, by decide +kernel, by decide +kernel⟩
theorem tn_X6_solve : Cond.instanceMethod yX6_solve ∈ tw := tw_i 937 (by decide +kernel) (by decide +kernel)
theorem ts_X6_solve : Cond.selects RX6 yX6_solve yX6_solve ∈ tw := tw_i 938 (by decide +kernel) (by decide +kernel)
theorem mi_X6_solve : Mi mX6_solve := ⟨tn_X6_solve, ts_X6_solve⟩
abbrev mX6_fits : Mb := (yX6_fits, cX6_fits, 8, (some .boolean))
set_option maxRecDepth 100000 in
theorem tc_X6_fits : Cond.code yX6_fits cX6_fits 8 (some .boolean) ∈ tw := tw_i 949 rfl rfl
theorem mw_X6_fits : Mw mX6_fits 5 := ⟨tc_X6_fits, ti_X6, by decide +kernel, by decide +kernel, by decide +kernel⟩
theorem tn_X6_fits : Cond.instanceMethod yX6_fits ∈ tw := tw_i 948 (by decide +kernel) (by decide +kernel)
theorem ts_X6_fits : Cond.selects RX6 yX6_fits yX6_fits ∈ tw := tw_i 62 (by decide +kernel) (by decide +kernel)
theorem mi_X6_fits : Mi mX6_fits := ⟨tn_X6_fits, ts_X6_fits⟩
abbrev mX6_note : Mb := (yX6_note, cX6_note, 5, none)
set_option maxRecDepth 100000 in
theorem tc_X6_note : Cond.code yX6_note cX6_note 5 none ∈ tw := tw_i 953 rfl rfl
theorem mw_X6_note : Mw mX6_note 4 := ⟨tc_X6_note, ti_X6, by decide +kernel, by decide +kernel, by decide +kernel⟩
theorem tn_X6_note : Cond.instanceMethod yX6_note ∈ tw := tw_i 952 (by decide +kernel) (by decide +kernel)
theorem ts_X6_note : Cond.selects RX6 yX6_note yX6_note ∈ tw := tw_i 63 (by decide +kernel) (by decide +kernel)
theorem mi_X6_note : Mi mX6_note := ⟨tn_X6_note, ts_X6_note⟩
abbrev mX6_points : Mb := (yX6_points, cX6_points, 6, (some .int))
set_option maxRecDepth 100000 in
theorem tc_X6_points : Cond.code yX6_points cX6_points 6 (some .int) ∈ tw := tw_i 945 rfl rfl
theorem mw_X6_points : Mw mX6_points 1 := ⟨tc_X6_points, ti_X6, by decide +kernel, by decide +kernel, by decide +kernel⟩
theorem tn_X6_points : Cond.instanceMethod yX6_points ∈ tw := tw_i 943 (by decide +kernel) (by decide +kernel)
theorem ts_X6_points : Cond.selects RX6 yX6_points yX6_points ∈ tw := tw_i 944 (by decide +kernel) (by decide +kernel)
theorem mi_X6_points : Mi mX6_points := ⟨tn_X6_points, ts_X6_points⟩
abbrev mX6_point : Mb := (yX6_point, cX6_point, 3, (some .int))
set_option maxRecDepth 100000 in
theorem tc_X6_point : Cond.code yX6_point cX6_point 3 (some .int) ∈ tw := tw_i 957 rfl rfl
theorem mw_X6_point : Mw mX6_point 2 := ⟨tc_X6_point, ti_X6, by decide +kernel, by decide +kernel, by decide +kernel⟩
theorem tn_X6_point : Cond.instanceMethod yX6_point ∈ tw := tw_i 955 (by decide +kernel) (by decide +kernel)
theorem ts_X6_point : Cond.selects RX6 yX6_point yX6_point ∈ tw := tw_i 956 (by decide +kernel) (by decide +kernel)
theorem mi_X6_point : Mi mX6_point := ⟨tn_X6_point, ts_X6_point⟩
abbrev mX6_table : Mb := (yX6_table, cX6_table, 7, (some .int))
set_option maxRecDepth 100000 in
theorem tc_X6_table : Cond.code yX6_table cX6_table 7 (some .int) ∈ tw := tw_i 961 rfl rfl
theorem mw_X6_table : Mw mX6_table 2 := ⟨tc_X6_table, ti_X6, by decide +kernel, by decide +kernel, by decide +kernel⟩
theorem tn_X6_table : Cond.instanceMethod yX6_table ∈ tw := tw_i 959 (by decide +kernel) (by decide +kernel)
theorem ts_X6_table : Cond.selects RX6 yX6_table yX6_table ∈ tw := tw_i 960 (by decide +kernel) (by decide +kernel)
theorem mi_X6_table : Mi mX6_table := ⟨tn_X6_table, ts_X6_table⟩
abbrev mX6_twice : Mb := (yX6_twice, cX6_twice, 5, (some .int))
set_option maxRecDepth 100000 in
theorem tc_X6_twice : Cond.code yX6_twice cX6_twice 5 (some .int) ∈ tw := tw_i 965 rfl rfl
theorem mw_X6_twice : Mw mX6_twice 0 := ⟨tc_X6_twice, ti_X6, by decide +kernel, by decide +kernel, by decide +kernel⟩
theorem tn_X6_twice : Cond.instanceMethod yX6_twice ∈ tw := tw_i 963 (by decide +kernel) (by decide +kernel)
theorem ts_X6_twice : Cond.selects RX6 yX6_twice yX6_twice ∈ tw := tw_i 964 (by decide +kernel) (by decide +kernel)
theorem mi_X6_twice : Mi mX6_twice := ⟨tn_X6_twice, ts_X6_twice⟩
abbrev mX6_isRow : Mb := (yX6_isRow, cX6_isRow, 2, (some .boolean))
set_option maxRecDepth 100000 in
theorem tc_X6_isRow : Cond.code yX6_isRow cX6_isRow 2 (some .boolean) ∈ tw := tw_i 973 rfl rfl
theorem mw_X6_isRow : Mw mX6_isRow 1 := ⟨tc_X6_isRow, ti_X6, by decide +kernel, by decide +kernel, by decide +kernel⟩
theorem tn_X6_isRow : Cond.instanceMethod yX6_isRow ∈ tw := tw_i 972 (by decide +kernel) (by decide +kernel)
theorem ts_X6_isRow : Cond.selects RX6 yX6_isRow yX6_isRow ∈ tw := tw_i 64 (by decide +kernel) (by decide +kernel)
theorem mi_X6_isRow : Mi mX6_isRow := ⟨tn_X6_isRow, ts_X6_isRow⟩
abbrev mX6_swap : Mb := (yX6_swap, cX6_swap, 5, (some .boolean))
set_option maxRecDepth 100000 in
theorem tc_X6_swap : Cond.code yX6_swap cX6_swap 5 (some .boolean) ∈ tw := tw_i 969 rfl rfl
theorem mw_X6_swap : Mw mX6_swap 2 := ⟨tc_X6_swap, ti_X6, by decide +kernel, by decide +kernel, by decide +kernel⟩
theorem tn_X6_swap : Cond.instanceMethod yX6_swap ∈ tw := tw_i 967 (by decide +kernel) (by decide +kernel)
theorem ts_X6_swap : Cond.selects RX6 yX6_swap yX6_swap ∈ tw := tw_i 968 (by decide +kernel) (by decide +kernel)
theorem mi_X6_swap : Mi mX6_swap := ⟨tn_X6_swap, ts_X6_swap⟩
abbrev mX6_sign : Mb := (yX6_sign, cX6_sign, 3, (some .int))
set_option maxRecDepth 100000 in
theorem tc_X6_sign : Cond.code yX6_sign cX6_sign 3 (some .int) ∈ tw := tw_i 977 rfl rfl
theorem mw_X6_sign : Mw mX6_sign 2 := ⟨tc_X6_sign, ti_X6, by decide +kernel, by decide +kernel, by decide +kernel⟩
theorem tn_X6_sign : Cond.instanceMethod yX6_sign ∈ tw := tw_i 975 (by decide +kernel) (by decide +kernel)
theorem ts_X6_sign : Cond.selects RX6 yX6_sign yX6_sign ∈ tw := tw_i 976 (by decide +kernel) (by decide +kernel)
theorem mi_X6_sign : Mi mX6_sign := ⟨tn_X6_sign, ts_X6_sign⟩
abbrev mX6_product : Mb := (yX6_product, cX6_product, 5, (some .int))
set_option maxRecDepth 100000 in
theorem tc_X6_product : Cond.code yX6_product cX6_product 5 (some .int) ∈ tw := tw_i 981 rfl rfl
theorem mw_X6_product : Mw mX6_product 2 := ⟨tc_X6_product, ti_X6, by decide +kernel, by decide +kernel, by decide +kernel⟩
theorem tn_X6_product : Cond.instanceMethod yX6_product ∈ tw := tw_i 979 (by decide +kernel) (by decide +kernel)
theorem ts_X6_product : Cond.selects RX6 yX6_product yX6_product ∈ tw := tw_i 980 (by decide +kernel) (by decide +kernel)
theorem mi_X6_product : Mi mX6_product := ⟨tn_X6_product, ts_X6_product⟩
abbrev mX6_look : Mb := (yX6_look, cX6_look, 4, (some .int))
set_option maxRecDepth 100000 in
theorem tc_X6_look : Cond.code yX6_look cX6_look 4 (some .int) ∈ tw := tw_i 985 rfl rfl
theorem mw_X6_look : Mw mX6_look 1 := ⟨tc_X6_look, ti_X6, by decide +kernel, by decide +kernel, by decide +kernel⟩
theorem tn_X6_look : Cond.instanceMethod yX6_look ∈ tw := tw_i 983 (by decide +kernel) (by decide +kernel)
theorem ts_X6_look : Cond.selects RX6 yX6_look yX6_look ∈ tw := tw_i 984 (by decide +kernel) (by decide +kernel)
theorem mi_X6_look : Mi mX6_look := ⟨tn_X6_look, ts_X6_look⟩
abbrev mX6_fault : Mb := (yX6_fault, cX6_fault, 1, (some .int))
set_option maxRecDepth 100000 in
theorem tc_X6_fault : Cond.code yX6_fault cX6_fault 1 (some .int) ∈ tw := tw_i 989 rfl rfl
theorem mw_X6_fault : Mw mX6_fault 0 := ⟨tc_X6_fault, ti_X6, by decide +kernel, by decide +kernel, by decide +kernel⟩
theorem tn_X6_fault : Cond.instanceMethod yX6_fault ∈ tw := tw_i 987 (by decide +kernel) (by decide +kernel)
theorem ts_X6_fault : Cond.selects RX6 yX6_fault yX6_fault ∈ tw := tw_i 988 (by decide +kernel) (by decide +kernel)
theorem mi_X6_fault : Mi mX6_fault := ⟨tn_X6_fault, ts_X6_fault⟩
abbrev mJ6_bitCount_0f7a4 : Mb := (yJ6_bitCount_0f7a4, cJ6_bitCount_0f7a4, 1, (some .int))
set_option maxRecDepth 100000 in
theorem tc_J6_bitCount_0f7a4 : Cond.code yJ6_bitCount_0f7a4 cJ6_bitCount_0f7a4 1 (some .int) ∈ tw := tw_i 409 rfl rfl
theorem mw_J6_bitCount_0f7a4 : Mw mJ6_bitCount_0f7a4 1 := ⟨tc_J6_bitCount_0f7a4, ti_J6, by decide +kernel, by decide +kernel, by decide +kernel⟩
theorem ms_J6_bitCount_0f7a4 : Cond.static yJ6_bitCount_0f7a4 ∈ tw := tw_i 408 (by decide +kernel) (by decide +kernel)
abbrev mJ9_floorMod_7cf53 : Mb := (yJ9_floorMod_7cf53, cJ9_floorMod_7cf53, 3, (some .int))
set_option maxRecDepth 100000 in
theorem tc_J9_floorMod_7cf53 : Cond.code yJ9_floorMod_7cf53 cJ9_floorMod_7cf53 3 (some .int) ∈ tw := tw_i 348 rfl rfl
theorem mw_J9_floorMod_7cf53 : Mw mJ9_floorMod_7cf53 2 := ⟨tc_J9_floorMod_7cf53, ti_J9, by decide +kernel, by decide +kernel, by decide +kernel⟩
theorem ms_J9_floorMod_7cf53 : Cond.static yJ9_floorMod_7cf53 ∈ tw := tw_i 347 (by decide +kernel) (by decide +kernel)
abbrev mJ7_fill_53178 : Mb := (yJ7_fill_53178, cJ7_fill_53178, 4, none)
set_option maxRecDepth 100000 in
theorem tc_J7_fill_53178 : Cond.code yJ7_fill_53178 cJ7_fill_53178 4 none ∈ tw := tw_i 227 rfl rfl
theorem mw_J7_fill_53178 : Mw mJ7_fill_53178 2 := ⟨tc_J7_fill_53178, ti_J7, by decide +kernel, by decide +kernel, by decide +kernel⟩
theorem ms_J7_fill_53178 : Cond.static yJ7_fill_53178 ∈ tw := tw_i 226 (by decide +kernel) (by decide +kernel)
theorem ml_L_19 : Cond.methodLink RL 19 yX5_ring ∈ tw := tw_i 209 (by decide +kernel) (by decide +kernel)
theorem ml_X5_48 : Cond.methodLink RX5 48 yX5_refuses ∈ tw := tw_i 213 (by decide +kernel) (by decide +kernel)
theorem ml_X5_52 : Cond.methodLink RX5 52 yX5_startRing ∈ tw := tw_i 217 (by decide +kernel) (by decide +kernel)
theorem ml_X1_27 : Cond.methodLink RX1 27 yJ7_fill_53178 ∈ tw := tw_i 225 (by decide +kernel) (by decide +kernel)
theorem ml_L_24 : Cond.methodLink RL 24 yX5_sheet ∈ tw := tw_i 228 (by decide +kernel) (by decide +kernel)
theorem ml_X5_56 : Cond.methodLink RX5 56 yX5_sheetFault ∈ tw := tw_i 232 (by decide +kernel) (by decide +kernel)
theorem ml_X3_22 : Cond.methodLink RX3 22 yJ7_fill_53178 ∈ tw := tw_i 239 (by decide +kernel) (by decide +kernel)
theorem ml_L_28 : Cond.methodLink RL 28 yX5_entry ∈ tw := tw_i 240 (by decide +kernel) (by decide +kernel)
theorem ml_L_33 : Cond.methodLink RL 33 yX5_lay ∈ tw := tw_i 248 (by decide +kernel) (by decide +kernel)
theorem ml_X5_73 : Cond.methodLink RX5 73 yX5_layFault ∈ tw := tw_i 252 (by decide +kernel) (by decide +kernel)
theorem ml_X5_90 : Cond.methodLink RX5 90 yX5_forgetBackOf ∈ tw := tw_i 276 (by decide +kernel) (by decide +kernel)
theorem ml_L_37 : Cond.methodLink RL 37 yX5_set ∈ tw := tw_i 280 (by decide +kernel) (by decide +kernel)
theorem ml_L_42 : Cond.methodLink RL 42 yX5_miss ∈ tw := tw_i 288 (by decide +kernel) (by decide +kernel)
theorem ml_L_56 : Cond.methodLink RL 56 yX5_count ∈ tw := tw_i 293 (by decide +kernel) (by decide +kernel)
theorem ml_X1_41 : Cond.methodLink RX1 41 yX1_meetsAt ∈ tw := tw_i 305 (by decide +kernel) (by decide +kernel)
theorem ml_X1_37 : Cond.methodLink RX1 37 yX1_throughMask ∈ tw := tw_i 309 (by decide +kernel) (by decide +kernel)
theorem ml_X1_33 : Cond.methodLink RX1 33 yX1_wrap ∈ tw := tw_i 313 (by decide +kernel) (by decide +kernel)
theorem ml_L_61 : Cond.methodLink RL 61 yX5_shadow ∈ tw := tw_i 317 (by decide +kernel) (by decide +kernel)
theorem ml_L_65 : Cond.methodLink RL 65 yX5_cast ∈ tw := tw_i 325 (by decide +kernel) (by decide +kernel)
theorem ml_L_70 : Cond.methodLink RL 70 yX5_meets ∈ tw := tw_i 329 (by decide +kernel) (by decide +kernel)
theorem ml_L_74 : Cond.methodLink RL 74 yX5_off ∈ tw := tw_i 334 (by decide +kernel) (by decide +kernel)
theorem ml_L_78 : Cond.methodLink RL 78 yX5_turn ∈ tw := tw_i 338 (by decide +kernel) (by decide +kernel)
theorem ml_X1_44 : Cond.methodLink RX1 44 yJ9_floorMod_7cf53 ∈ tw := tw_i 346 (by decide +kernel) (by decide +kernel)
theorem ml_L_82 : Cond.methodLink RL 82 yX5_anti ∈ tw := tw_i 352 (by decide +kernel) (by decide +kernel)
theorem ml_L_86 : Cond.methodLink RL 86 yX5_fold ∈ tw := tw_i 360 (by decide +kernel) (by decide +kernel)
theorem ml_X5_142 : Cond.methodLink RX5 142 yX5_canFold ∈ tw := tw_i 364 (by decide +kernel) (by decide +kernel)
theorem ml_X5_230 : Cond.methodLink RX5 230 yX5_commonDivisor ∈ tw := tw_i 368 (by decide +kernel) (by decide +kernel)
theorem ml_L_91 : Cond.methodLink RL 91 yX5_rests ∈ tw := tw_i 374 (by decide +kernel) (by decide +kernel)
theorem ml_X5_146 : Cond.methodLink RX5 146 yX5_isRestPrime ∈ tw := tw_i 378 (by decide +kernel) (by decide +kernel)
theorem ml_X5_234 : Cond.methodLink RX5 234 yX5_isPrime ∈ tw := tw_i 381 (by decide +kernel) (by decide +kernel)
theorem ml_X5_149 : Cond.methodLink RX5 149 yX5_isSquare ∈ tw := tw_i 384 (by decide +kernel) (by decide +kernel)
theorem ml_L_95 : Cond.methodLink RL 95 yX5_twins ∈ tw := tw_i 387 (by decide +kernel) (by decide +kernel)
theorem ml_X5_152 : Cond.methodLink RX5 152 yX5_isTwinPrime ∈ tw := tw_i 391 (by decide +kernel) (by decide +kernel)
theorem ml_L_99 : Cond.methodLink RL 99 yX5_shift ∈ tw := tw_i 394 (by decide +kernel) (by decide +kernel)
theorem ml_X5_155 : Cond.methodLink RX5 155 yX5_leastTaps ∈ tw := tw_i 398 (by decide +kernel) (by decide +kernel)
theorem ml_X5_242 : Cond.methodLink RX5 242 yX5_stepsRound ∈ tw := tw_i 401 (by decide +kernel) (by decide +kernel)
theorem ml_X5_158 : Cond.methodLink RX5 158 yX5_nextState ∈ tw := tw_i 404 (by decide +kernel) (by decide +kernel)
theorem ml_X5_237 : Cond.methodLink RX5 237 yJ6_bitCount_0f7a4 ∈ tw := tw_i 407 (by decide +kernel) (by decide +kernel)
theorem ml_L_103 : Cond.methodLink RL 103 yX5_undo ∈ tw := tw_i 413 (by decide +kernel) (by decide +kernel)
theorem ml_X5_162 : Cond.methodLink RX5 162 yX5_smallRingFault ∈ tw := tw_i 417 (by decide +kernel) (by decide +kernel)
theorem ml_X4_65 : Cond.methodLink RX4 65 yX4_reduce ∈ tw := tw_i 429 (by decide +kernel) (by decide +kernel)
theorem ml_X4_43 : Cond.methodLink RX4 43 yX4_fillCells ∈ tw := tw_i 433 (by decide +kernel) (by decide +kernel)
theorem ml_X4_47 : Cond.methodLink RX4 47 yX4_rowToLead ∈ tw := tw_i 441 (by decide +kernel) (by decide +kernel)
theorem ml_X4_50 : Cond.methodLink RX4 50 yX4_swapCells ∈ tw := tw_i 445 (by decide +kernel) (by decide +kernel)
theorem ml_X4_54 : Cond.methodLink RX4 54 yX4_clearColumn ∈ tw := tw_i 449 (by decide +kernel) (by decide +kernel)
theorem ml_L_108 : Cond.methodLink RL 108 yX5_back ∈ tw := tw_i 458 (by decide +kernel) (by decide +kernel)
theorem ml_L_113 : Cond.methodLink RL 113 yX5_noise ∈ tw := tw_i 466 (by decide +kernel) (by decide +kernel)
theorem ml_L_117 : Cond.methodLink RL 117 yX5_rank ∈ tw := tw_i 474 (by decide +kernel) (by decide +kernel)
theorem ml_L_121 : Cond.methodLink RL 121 yX5_lost ∈ tw := tw_i 479 (by decide +kernel) (by decide +kernel)
theorem ml_L_125 : Cond.methodLink RL 125 yX5_solve ∈ tw := tw_i 488 (by decide +kernel) (by decide +kernel)
theorem ml_L_129 : Cond.methodLink RL 129 yX5_sure ∈ tw := tw_i 499 (by decide +kernel) (by decide +kernel)
theorem ml_L_133 : Cond.methodLink RL 133 yX5_points ∈ tw := tw_i 503 (by decide +kernel) (by decide +kernel)
theorem ml_X2_25 : Cond.methodLink RX2 25 yX2_openWindows ∈ tw := tw_i 511 (by decide +kernel) (by decide +kernel)
theorem ml_X2_29 : Cond.methodLink RX2 29 yX2_holds ∈ tw := tw_i 527 (by decide +kernel) (by decide +kernel)
theorem ml_X2_33 : Cond.methodLink RX2 33 yX2_tell ∈ tw := tw_i 531 (by decide +kernel) (by decide +kernel)
theorem ml_X2_42 : Cond.methodLink RX2 42 yX2_searchPairs ∈ tw := tw_i 535 (by decide +kernel) (by decide +kernel)
theorem ml_X2_46 : Cond.methodLink RX2 46 yX2_tellSeconds ∈ tw := tw_i 539 (by decide +kernel) (by decide +kernel)
theorem ml_L_137 : Cond.methodLink RL 137 yX5_point ∈ tw := tw_i 543 (by decide +kernel) (by decide +kernel)
theorem ml_L_141 : Cond.methodLink RL 141 yX5_table ∈ tw := tw_i 551 (by decide +kernel) (by decide +kernel)
theorem ml_X0_17 : Cond.methodLink RX0 17 yJ6_bitCount_0f7a4 ∈ tw := tw_i 559 (by decide +kernel) (by decide +kernel)
theorem ml_L_145 : Cond.methodLink RL 145 yX5_twice ∈ tw := tw_i 565 (by decide +kernel) (by decide +kernel)
theorem ml_X0_29 : Cond.methodLink RX0 29 yX0_allColumns ∈ tw := tw_i 573 (by decide +kernel) (by decide +kernel)
theorem ml_L_149 : Cond.methodLink RL 149 yX5_swap ∈ tw := tw_i 576 (by decide +kernel) (by decide +kernel)
theorem ml_X5_209 : Cond.methodLink RX5 209 yX5_rowsFault ∈ tw := tw_i 580 (by decide +kernel) (by decide +kernel)
theorem ml_L_153 : Cond.methodLink RL 153 yX5_sign ∈ tw := tw_i 592 (by decide +kernel) (by decide +kernel)
theorem ml_L_157 : Cond.methodLink RL 157 yX5_product ∈ tw := tw_i 600 (by decide +kernel) (by decide +kernel)
theorem ml_L_161 : Cond.methodLink RL 161 yX5_look ∈ tw := tw_i 608 (by decide +kernel) (by decide +kernel)
theorem ml_L_165 : Cond.methodLink RL 165 yX5_fault ∈ tw := tw_i 613 (by decide +kernel) (by decide +kernel)
theorem ml_L_7 : Cond.methodLink RL 7 yX5_at ∈ tw := tw_i 621 (by decide +kernel) (by decide +kernel)
theorem ml_L_52 : Cond.methodLink RL 52 yX6_thrown ∈ tw := tw_i 763 (by decide +kernel) (by decide +kernel)
theorem ml_L_23 : Cond.methodLink RL 23 yX6_ring ∈ tw := tw_i 767 (by decide +kernel) (by decide +kernel)
theorem ml_X6_68 : Cond.methodLink RX6 68 yX6_start ∈ tw := tw_i 771 (by decide +kernel) (by decide +kernel)
theorem ml_X6_71 : Cond.methodLink RX6 71 yX6_not ∈ tw := tw_i 775 (by decide +kernel) (by decide +kernel)
theorem ml_X6_75 : Cond.methodLink RX6 75 yX6_begin ∈ tw := tw_i 779 (by decide +kernel) (by decide +kernel)
theorem ml_L_27 : Cond.methodLink RL 27 yX6_sheet ∈ tw := tw_i 783 (by decide +kernel) (by decide +kernel)
theorem ml_X6_79 : Cond.methodLink RX6 79 yX6_no ∈ tw := tw_i 787 (by decide +kernel) (by decide +kernel)
theorem ml_L_32 : Cond.methodLink RL 32 yX6_entry ∈ tw := tw_i 791 (by decide +kernel) (by decide +kernel)
theorem ml_L_36 : Cond.methodLink RL 36 yX6_lay ∈ tw := tw_i 795 (by decide +kernel) (by decide +kernel)
theorem ml_X6_87 : Cond.methodLink RX6 87 yX6_most ∈ tw := tw_i 799 (by decide +kernel) (by decide +kernel)
theorem ml_X6_90 : Cond.methodLink RX6 90 yX6_put ∈ tw := tw_i 803 (by decide +kernel) (by decide +kernel)
theorem ml_L_41 : Cond.methodLink RL 41 yX6_set ∈ tw := tw_i 807 (by decide +kernel) (by decide +kernel)
theorem ml_X6_94 : Cond.methodLink RX6 94 yX6_isPlace ∈ tw := tw_i 811 (by decide +kernel) (by decide +kernel)
theorem ml_L_45 : Cond.methodLink RL 45 yX6_miss ∈ tw := tw_i 815 (by decide +kernel) (by decide +kernel)
theorem ml_L_51 : Cond.methodLink RL 51 yX6_at ∈ tw := tw_i 819 (by decide +kernel) (by decide +kernel)
theorem ml_L_60 : Cond.methodLink RL 60 yX6_count ∈ tw := tw_i 823 (by decide +kernel) (by decide +kernel)
theorem ml_X6_100 : Cond.methodLink RX6 100 yX6_firstOff ∈ tw := tw_i 827 (by decide +kernel) (by decide +kernel)
theorem ml_X6_97 : Cond.methodLink RX6 97 yX6_meetsAt ∈ tw := tw_i 831 (by decide +kernel) (by decide +kernel)
theorem ml_L_64 : Cond.methodLink RL 64 yX6_shadow ∈ tw := tw_i 835 (by decide +kernel) (by decide +kernel)
theorem ml_X6_107 : Cond.methodLink RX6 107 yX6_shadowAt ∈ tw := tw_i 839 (by decide +kernel) (by decide +kernel)
theorem ml_L_69 : Cond.methodLink RL 69 yX6_cast ∈ tw := tw_i 843 (by decide +kernel) (by decide +kernel)
theorem ml_L_73 : Cond.methodLink RL 73 yX6_meets ∈ tw := tw_i 847 (by decide +kernel) (by decide +kernel)
theorem ml_L_77 : Cond.methodLink RL 77 yX6_off ∈ tw := tw_i 851 (by decide +kernel) (by decide +kernel)
theorem ml_L_81 : Cond.methodLink RL 81 yX6_turn ∈ tw := tw_i 855 (by decide +kernel) (by decide +kernel)
theorem ml_L_85 : Cond.methodLink RL 85 yX6_anti ∈ tw := tw_i 859 (by decide +kernel) (by decide +kernel)
theorem ml_L_90 : Cond.methodLink RL 90 yX6_fold ∈ tw := tw_i 863 (by decide +kernel) (by decide +kernel)
theorem ml_X6_110 : Cond.methodLink RX6 110 yX6_common ∈ tw := tw_i 867 (by decide +kernel) (by decide +kernel)
theorem ml_L_94 : Cond.methodLink RL 94 yX6_rests ∈ tw := tw_i 870 (by decide +kernel) (by decide +kernel)
theorem ml_X6_114 : Cond.methodLink RX6 114 yX6_isPrime ∈ tw := tw_i 874 (by decide +kernel) (by decide +kernel)
theorem ml_X6_117 : Cond.methodLink RX6 117 yX6_isSquare ∈ tw := tw_i 877 (by decide +kernel) (by decide +kernel)
theorem ml_X6_121 : Cond.methodLink RX6 121 yX6_holes ∈ tw := tw_i 880 (by decide +kernel) (by decide +kernel)
theorem ml_L_98 : Cond.methodLink RL 98 yX6_twins ∈ tw := tw_i 884 (by decide +kernel) (by decide +kernel)
theorem ml_L_102 : Cond.methodLink RL 102 yX6_shift ∈ tw := tw_i 888 (by decide +kernel) (by decide +kernel)
theorem ml_X6_129 : Cond.methodLink RX6 129 yX6_round ∈ tw := tw_i 892 (by decide +kernel) (by decide +kernel)
theorem ml_X6_124 : Cond.methodLink RX6 124 yJ6_bitCount_0f7a4 ∈ tw := tw_i 896 (by decide +kernel) (by decide +kernel)
theorem ml_L_107 : Cond.methodLink RL 107 yX6_undo ∈ tw := tw_i 897 (by decide +kernel) (by decide +kernel)
theorem ml_X6_144 : Cond.methodLink RX6 144 yX6_solveBack ∈ tw := tw_i 901 (by decide +kernel) (by decide +kernel)
theorem ml_X6_136 : Cond.methodLink RX6 136 yX6_down ∈ tw := tw_i 905 (by decide +kernel) (by decide +kernel)
theorem ml_X6_140 : Cond.methodLink RX6 140 yX6_gcd ∈ tw := tw_i 909 (by decide +kernel) (by decide +kernel)
theorem ml_L_112 : Cond.methodLink RL 112 yX6_back ∈ tw := tw_i 912 (by decide +kernel) (by decide +kernel)
theorem ml_L_116 : Cond.methodLink RL 116 yX6_noise ∈ tw := tw_i 916 (by decide +kernel) (by decide +kernel)
theorem ml_L_120 : Cond.methodLink RL 120 yX6_rank ∈ tw := tw_i 920 (by decide +kernel) (by decide +kernel)
theorem ml_X6_148 : Cond.methodLink RX6 148 yX6_layShadow ∈ tw := tw_i 924 (by decide +kernel) (by decide +kernel)
theorem ml_L_132 : Cond.methodLink RL 132 yX6_sure ∈ tw := tw_i 928 (by decide +kernel) (by decide +kernel)
theorem ml_L_124 : Cond.methodLink RL 124 yX6_lost ∈ tw := tw_i 932 (by decide +kernel) (by decide +kernel)
theorem ml_L_128 : Cond.methodLink RL 128 yX6_solve ∈ tw := tw_i 936 (by decide +kernel) (by decide +kernel)
theorem ml_L_136 : Cond.methodLink RL 136 yX6_points ∈ tw := tw_i 942 (by decide +kernel) (by decide +kernel)
theorem ml_X6_156 : Cond.methodLink RX6 156 yX6_fits ∈ tw := tw_i 946 (by decide +kernel) (by decide +kernel)
theorem ml_X6_160 : Cond.methodLink RX6 160 yX6_note ∈ tw := tw_i 950 (by decide +kernel) (by decide +kernel)
theorem ml_L_140 : Cond.methodLink RL 140 yX6_point ∈ tw := tw_i 954 (by decide +kernel) (by decide +kernel)
theorem ml_L_144 : Cond.methodLink RL 144 yX6_table ∈ tw := tw_i 958 (by decide +kernel) (by decide +kernel)
theorem ml_L_148 : Cond.methodLink RL 148 yX6_twice ∈ tw := tw_i 962 (by decide +kernel) (by decide +kernel)
theorem ml_L_152 : Cond.methodLink RL 152 yX6_swap ∈ tw := tw_i 966 (by decide +kernel) (by decide +kernel)
theorem ml_X6_164 : Cond.methodLink RX6 164 yX6_isRow ∈ tw := tw_i 970 (by decide +kernel) (by decide +kernel)
theorem ml_L_156 : Cond.methodLink RL 156 yX6_sign ∈ tw := tw_i 974 (by decide +kernel) (by decide +kernel)
theorem ml_L_160 : Cond.methodLink RL 160 yX6_product ∈ tw := tw_i 978 (by decide +kernel) (by decide +kernel)
theorem ml_L_164 : Cond.methodLink RL 164 yX6_look ∈ tw := tw_i 982 (by decide +kernel) (by decide +kernel)
theorem ml_L_168 : Cond.methodLink RL 168 yX6_fault ∈ tw := tw_i 986 (by decide +kernel) (by decide +kernel)
theorem mn_X5_227 : Cond.methodLinkNest RX5 227 yX1_start "HoleMask" ∈ nw := nw_i 221 (by decide +kernel) rfl
theorem mn_X5_60 : Cond.methodLinkNest RX5 60 yX3_take "HoleMask" ∈ nw := nw_i 235 (by decide +kernel) rfl
theorem mn_X5_70 : Cond.methodLinkNest RX5 70 yX3_write "HoleMask" ∈ nw := nw_i 244 (by decide +kernel) rfl
theorem mn_X5_93 : Cond.methodLinkNest RX5 93 yX1_isRow "HoleMask" ∈ nw := nw_i 256 (by decide +kernel) rfl
theorem mn_X5_80 : Cond.methodLinkNest RX5 80 yX3_read "HoleMask" ∈ nw := nw_i 259 (by decide +kernel) rfl
theorem mn_X5_99 : Cond.methodLinkNest RX5 99 yX1_fits "HoleMask" ∈ nw := nw_i 263 (by decide +kernel) rfl
theorem mn_X5_83 : Cond.methodLinkNest RX5 83 yX1_put "HoleMask" ∈ nw := nw_i 268 (by decide +kernel) rfl
theorem mn_X5_87 : Cond.methodLinkNest RX5 87 yX3_drop "HoleMask" ∈ nw := nw_i 272 (by decide +kernel) rfl
theorem mn_X5_96 : Cond.methodLinkNest RX5 96 yX1_has "HoleMask" ∈ nw := nw_i 284 (by decide +kernel) rfl
theorem mn_X5_116 : Cond.methodLinkNest RX5 116 yX1_tally "HoleMask" ∈ nw := nw_i 297 (by decide +kernel) rfl
theorem mn_X5_119 : Cond.methodLinkNest RX5 119 yX1_firstOff "HoleMask" ∈ nw := nw_i 301 (by decide +kernel) rfl
theorem mn_X5_129 : Cond.methodLinkNest RX5 129 yX1_shadowAt "HoleMask" ∈ nw := nw_i 321 (by decide +kernel) rfl
theorem mn_X5_132 : Cond.methodLinkNest RX5 132 yX1_meetsAt "HoleMask" ∈ nw := nw_i 333 (by decide +kernel) rfl
theorem mn_X5_135 : Cond.methodLinkNest RX5 135 yX1_turnMask "HoleMask" ∈ nw := nw_i 342 (by decide +kernel) rfl
theorem mn_X5_111 : Cond.methodLinkNest RX5 111 yX1_get "HoleMask" ∈ nw := nw_i 356 (by decide +kernel) rfl
theorem mn_X5_167 : Cond.methodLinkNest RX5 167 yX4_invert "HoleMask" ∈ nw := nw_i 422 (by decide +kernel) rfl
theorem mn_X4_58 : Cond.methodLinkNest RX4 58 yX1_share "HoleMask" ∈ nw := nw_i 437 (by decide +kernel) rfl
theorem mn_X4_61 : Cond.methodLinkNest RX4 61 yX5_quotient "HoleMask" ∈ nw := nw_i 453 (by decide +kernel) rfl
theorem mn_X4_69 : Cond.methodLinkNest RX4 69 yX5_commonDivisor "HoleMask" ∈ nw := nw_i 456 (by decide +kernel) rfl
theorem mn_X4_72 : Cond.methodLinkNest RX4 72 yX1_wrap "HoleMask" ∈ nw := nw_i 457 (by decide +kernel) rfl
theorem mn_X5_175 : Cond.methodLinkNest RX5 175 yX4_backAt "HoleMask" ∈ nw := nw_i 462 (by decide +kernel) rfl
theorem mn_X5_179 : Cond.methodLinkNest RX5 179 yX4_noisePart "HoleMask" ∈ nw := nw_i 470 (by decide +kernel) rfl
theorem mn_X5_183 : Cond.methodLinkNest RX5 183 yX4_reduce "HoleMask" ∈ nw := nw_i 478 (by decide +kernel) rfl
theorem mn_X5_187 : Cond.methodLinkNest RX5 187 yX4_showLost "HoleMask" ∈ nw := nw_i 483 (by decide +kernel) rfl
theorem mn_X4_76 : Cond.methodLinkNest RX4 76 yX1_put "HoleMask" ∈ nw := nw_i 487 (by decide +kernel) rfl
theorem mn_X5_191 : Cond.methodLinkNest RX5 191 yX4_showSolved "HoleMask" ∈ nw := nw_i 492 (by decide +kernel) rfl
theorem mn_X4_79 : Cond.methodLinkNest RX4 79 yX1_get "HoleMask" ∈ nw := nw_i 496 (by decide +kernel) rfl
theorem mn_X5_194 : Cond.methodLinkNest RX5 194 yX2_search "HoleMask" ∈ nw := nw_i 507 (by decide +kernel) rfl
theorem mn_X2_52 : Cond.methodLinkNest RX2 52 yX1_get "HoleMask" ∈ nw := nw_i 517 (by decide +kernel) rfl
theorem mn_X2_57 : Cond.methodLinkNest RX2 57 yX1_share "HoleMask" ∈ nw := nw_i 519 (by decide +kernel) rfl
theorem mn_X5_197 : Cond.methodLinkNest RX5 197 yX2_part "HoleMask" ∈ nw := nw_i 547 (by decide +kernel) rfl
theorem mn_X5_200 : Cond.methodLinkNest RX5 200 yX0_makeDoubled "HoleMask" ∈ nw := nw_i 555 (by decide +kernel) rfl
theorem mn_X5_203 : Cond.methodLinkNest RX5 203 yX0_makeByRests "HoleMask" ∈ nw := nw_i 560 (by decide +kernel) rfl
theorem mn_X0_23 : Cond.methodLinkNest RX0 23 yX5_isSquare "HoleMask" ∈ nw := nw_i 564 (by decide +kernel) rfl
theorem mn_X5_206 : Cond.methodLinkNest RX5 206 yX0_doubleUp "HoleMask" ∈ nw := nw_i 569 (by decide +kernel) rfl
theorem mn_X5_215 : Cond.methodLinkNest RX5 215 yX0_has "HoleMask" ∈ nw := nw_i 584 (by decide +kernel) rfl
theorem mn_X5_212 : Cond.methodLinkNest RX5 212 yX0_swapRows "HoleMask" ∈ nw := nw_i 588 (by decide +kernel) rfl
theorem mn_X5_216 : Cond.methodLinkNest RX5 216 yX0_signAt "HoleMask" ∈ nw := nw_i 596 (by decide +kernel) rfl
theorem mn_X5_219 : Cond.methodLinkNest RX5 219 yX0_rowProduct "HoleMask" ∈ nw := nw_i 604 (by decide +kernel) rfl
theorem kc_X5_103 : Cond.constant RX5 103 (1073741824) ∈ tw := tw_i 292 (by decide +kernel) (by decide +kernel)
theorem kc_J6_265 : Cond.constant RJ6 265 (1431655765) ∈ tw := tw_i 410 (by decide +kernel) (by decide +kernel)
theorem kc_J6_266 : Cond.constant RJ6 266 (858993459) ∈ tw := tw_i 411 (by decide +kernel) (by decide +kernel)
theorem kc_J6_267 : Cond.constant RJ6 267 (252645135) ∈ tw := tw_i 412 (by decide +kernel) (by decide +kernel)
theorem kc_X2_50 : Cond.constant RX2 50 (-2000000) ∈ tw := tw_i 515 (by decide +kernel) (by decide +kernel)
theorem kc_X2_51 : Cond.constant RX2 51 (2000000) ∈ tw := tw_i 516 (by decide +kernel) (by decide +kernel)
theorem kc_X2_56 : Cond.constant RX2 56 (1073741824) ∈ tw := tw_i 518 (by decide +kernel) (by decide +kernel)
theorem kc_X6_86 : Cond.constant RX6 86 (1000000) ∈ tw := tw_i 802 (by decide +kernel) (by decide +kernel)
theorem kl_X5_165 : Cond.constantLong RX5 165 (-1) ∈ tw := tw_i 421 (by decide +kernel) (by decide +kernel)
theorem kl_X4_82 : Cond.constantLong RX4 82 (-1000) ∈ tw := tw_i 497 (by decide +kernel) (by decide +kernel)
theorem kl_X4_84 : Cond.constantLong RX4 84 (1000) ∈ tw := tw_i 498 (by decide +kernel) (by decide +kernel)
theorem kl_X6_152 : Cond.constantLong RX6 152 (-1000) ∈ tw := tw_i 940 (by decide +kernel) (by decide +kernel)
theorem kl_X6_154 : Cond.constantLong RX6 154 (1000) ∈ tw := tw_i 941 (by decide +kernel) (by decide +kernel)
theorem ly_X0_0 : u_lay RX0 TX0 0 ∈ tw := tw_i 185 (by decide +kernel) (by decide +kernel)
theorem ly_X0_1 : u_lay RX0 TX0 1 ∈ tw := tw_i 187 (by decide +kernel) (by decide +kernel)
theorem in_X0 : ∀ w ∈ u_ws RX0 TX0 2, w ∈ tw := by
  intro w hw
  obtain ⟨k, hk, rfl⟩ := List.mem_map.mp hw
  have hk := List.mem_range.mp hk
  match k, hk with
  | 0, _ => exact ly_X0_0
  | 1, _ => exact ly_X0_1
  | k + 2, hk => exact absurd hk (by omega)
theorem isF_5 : isF 5 0 (fun ad a b => (match cellOf ad (fun _ => 0) 5 a b with | .inr q => q.2 | .inl _ => [])) := ⟨by decide, fun _ _ _ _ => rfl⟩
theorem isO_5 : isO 5 RX0 := ⟨0, _, _, isF_5, rfl, rfl⟩
theorem ly_X1_0 : u_lay RX1 TX1 0 ∈ tw := tw_i 103 (by decide +kernel) (by decide +kernel)
theorem ly_X1_1 : u_lay RX1 TX1 1 ∈ tw := tw_i 105 (by decide +kernel) (by decide +kernel)
theorem ly_X1_2 : u_lay RX1 TX1 2 ∈ tw := tw_i 107 (by decide +kernel) (by decide +kernel)
theorem in_X1 : ∀ w ∈ u_ws RX1 TX1 3, w ∈ tw := by
  intro w hw
  obtain ⟨k, hk, rfl⟩ := List.mem_map.mp hw
  have hk := List.mem_range.mp hk
  match k, hk with
  | 0, _ => exact ly_X1_0
  | 1, _ => exact ly_X1_1
  | 2, _ => exact ly_X1_2
  | k + 3, hk => exact absurd hk (by omega)
theorem isF_1 : isF 1 1 (fun ad a b => (match cellOf ad (fun _ => 0) 1 a b with | .inr q => q.2 | .inl _ => [])) := ⟨by decide, fun _ _ _ _ => rfl⟩
theorem isO_1 : isO 1 RX1 := ⟨1, _, _, isF_1, rfl, rfl⟩
theorem ly_X2_0 : u_lay RX2 TX2 0 ∈ tw := tw_i 167 (by decide +kernel) (by decide +kernel)
theorem ly_X2_1 : u_lay RX2 TX2 1 ∈ tw := tw_i 169 (by decide +kernel) (by decide +kernel)
theorem ly_X2_2 : u_lay RX2 TX2 2 ∈ tw := tw_i 171 (by decide +kernel) (by decide +kernel)
theorem ly_X2_3 : u_lay RX2 TX2 3 ∈ tw := tw_i 173 (by decide +kernel) (by decide +kernel)
theorem in_X2 : ∀ w ∈ u_ws RX2 TX2 4, w ∈ tw := by
  intro w hw
  obtain ⟨k, hk, rfl⟩ := List.mem_map.mp hw
  have hk := List.mem_range.mp hk
  match k, hk with
  | 0, _ => exact ly_X2_0
  | 1, _ => exact ly_X2_1
  | 2, _ => exact ly_X2_2
  | 3, _ => exact ly_X2_3
  | k + 4, hk => exact absurd hk (by omega)
theorem isF_4 : isF 4 2 (fun ad a b => (match cellOf ad (fun _ => 0) 4 a b with | .inr q => q.2 | .inl _ => [])) := ⟨by decide, fun _ _ _ _ => rfl⟩
theorem isO_4 : isO 4 RX2 := ⟨2, _, _, isF_4, rfl, rfl⟩
theorem ly_X3_0 : u_lay RX3 TX3 0 ∈ tw := tw_i 122 (by decide +kernel) (by decide +kernel)
theorem ly_X3_1 : u_lay RX3 TX3 1 ∈ tw := tw_i 124 (by decide +kernel) (by decide +kernel)
theorem ly_X3_2 : u_lay RX3 TX3 2 ∈ tw := tw_i 126 (by decide +kernel) (by decide +kernel)
theorem in_X3 : ∀ w ∈ u_ws RX3 TX3 3, w ∈ tw := by
  intro w hw
  obtain ⟨k, hk, rfl⟩ := List.mem_map.mp hw
  have hk := List.mem_range.mp hk
  match k, hk with
  | 0, _ => exact ly_X3_0
  | 1, _ => exact ly_X3_1
  | 2, _ => exact ly_X3_2
  | k + 3, hk => exact absurd hk (by omega)
theorem isF_2 : isF 2 3 (fun ad a b => (match cellOf ad (fun _ => 0) 2 a b with | .inr q => q.2 | .inl _ => [])) := ⟨by decide, fun _ _ _ _ => rfl⟩
theorem isO_2 : isO 2 RX3 := ⟨3, _, _, isF_2, rfl, rfl⟩
theorem ly_X4_0 : u_lay RX4 TX4 0 ∈ tw := tw_i 144 (by decide +kernel) (by decide +kernel)
theorem ly_X4_1 : u_lay RX4 TX4 1 ∈ tw := tw_i 146 (by decide +kernel) (by decide +kernel)
theorem ly_X4_2 : u_lay RX4 TX4 2 ∈ tw := tw_i 148 (by decide +kernel) (by decide +kernel)
theorem ly_X4_3 : u_lay RX4 TX4 3 ∈ tw := tw_i 150 (by decide +kernel) (by decide +kernel)
theorem ly_X4_4 : u_lay RX4 TX4 4 ∈ tw := tw_i 152 (by decide +kernel) (by decide +kernel)
theorem in_X4 : ∀ w ∈ u_ws RX4 TX4 5, w ∈ tw := by
  intro w hw
  obtain ⟨k, hk, rfl⟩ := List.mem_map.mp hw
  have hk := List.mem_range.mp hk
  match k, hk with
  | 0, _ => exact ly_X4_0
  | 1, _ => exact ly_X4_1
  | 2, _ => exact ly_X4_2
  | 3, _ => exact ly_X4_3
  | 4, _ => exact ly_X4_4
  | k + 5, hk => exact absurd hk (by omega)
theorem isF_3 : isF 3 4 (fun ad a b => (match cellOf ad (fun _ => 0) 3 a b with | .inr q => q.2 | .inl _ => [])) := ⟨by decide, fun _ _ _ _ => rfl⟩
theorem isO_3 : isO 3 RX4 := ⟨4, _, _, isF_3, rfl, rfl⟩
theorem ly_X5_0 : u_lay RX5 TX5 0 ∈ tw := tw_i 196 (by decide +kernel) (by decide +kernel)
theorem ly_X5_1 : u_lay RX5 TX5 1 ∈ tw := tw_i 198 (by decide +kernel) (by decide +kernel)
theorem ly_X5_2 : u_lay RX5 TX5 2 ∈ tw := tw_i 200 (by decide +kernel) (by decide +kernel)
theorem ly_X5_3 : u_lay RX5 TX5 3 ∈ tw := tw_i 202 (by decide +kernel) (by decide +kernel)
theorem ly_X5_4 : u_lay RX5 TX5 4 ∈ tw := tw_i 204 (by decide +kernel) (by decide +kernel)
theorem ly_X5_5 : u_lay RX5 TX5 5 ∈ tw := tw_i 206 (by decide +kernel) (by decide +kernel)
theorem in_X5 : ∀ w ∈ u_ws RX5 TX5 6, w ∈ tw := by
  intro w hw
  obtain ⟨k, hk, rfl⟩ := List.mem_map.mp hw
  have hk := List.mem_range.mp hk
  match k, hk with
  | 0, _ => exact ly_X5_0
  | 1, _ => exact ly_X5_1
  | 2, _ => exact ly_X5_2
  | 3, _ => exact ly_X5_3
  | 4, _ => exact ly_X5_4
  | 5, _ => exact ly_X5_5
  | k + 6, hk => exact absurd hk (by omega)
theorem isF_0 : isF 0 5 (fun ad a b => (match cellOf ad (fun _ => 0) 0 a b with | .inr q => q.2 | .inl _ => [])) := ⟨by decide, fun _ _ _ _ => rfl⟩
theorem isO_0 : isO 0 RX5 := ⟨5, _, _, isF_0, rfl, rfl⟩
theorem ly_X6_0 : u_lay RX6 TX6 0 ∈ tw := tw_i 719 (by decide +kernel) (by decide +kernel)
theorem ly_X6_1 : u_lay RX6 TX6 1 ∈ tw := tw_i 721 (by decide +kernel) (by decide +kernel)
theorem ly_X6_2 : u_lay RX6 TX6 2 ∈ tw := tw_i 723 (by decide +kernel) (by decide +kernel)
theorem ly_X6_3 : u_lay RX6 TX6 3 ∈ tw := tw_i 725 (by decide +kernel) (by decide +kernel)
theorem ly_X6_4 : u_lay RX6 TX6 4 ∈ tw := tw_i 727 (by decide +kernel) (by decide +kernel)
theorem ly_X6_5 : u_lay RX6 TX6 5 ∈ tw := tw_i 729 (by decide +kernel) (by decide +kernel)
theorem ly_X6_6 : u_lay RX6 TX6 6 ∈ tw := tw_i 731 (by decide +kernel) (by decide +kernel)
theorem ly_X6_7 : u_lay RX6 TX6 7 ∈ tw := tw_i 733 (by decide +kernel) (by decide +kernel)
theorem ly_X6_8 : u_lay RX6 TX6 8 ∈ tw := tw_i 735 (by decide +kernel) (by decide +kernel)
theorem ly_X6_9 : u_lay RX6 TX6 9 ∈ tw := tw_i 737 (by decide +kernel) (by decide +kernel)
theorem ly_X6_10 : u_lay RX6 TX6 10 ∈ tw := tw_i 739 (by decide +kernel) (by decide +kernel)
theorem ly_X6_11 : u_lay RX6 TX6 11 ∈ tw := tw_i 741 (by decide +kernel) (by decide +kernel)
theorem ly_X6_12 : u_lay RX6 TX6 12 ∈ tw := tw_i 743 (by decide +kernel) (by decide +kernel)
theorem ly_X6_13 : u_lay RX6 TX6 13 ∈ tw := tw_i 745 (by decide +kernel) (by decide +kernel)
theorem ly_X6_14 : u_lay RX6 TX6 14 ∈ tw := tw_i 747 (by decide +kernel) (by decide +kernel)
theorem ly_X6_15 : u_lay RX6 TX6 15 ∈ tw := tw_i 749 (by decide +kernel) (by decide +kernel)
theorem ly_X6_16 : u_lay RX6 TX6 16 ∈ tw := tw_i 751 (by decide +kernel) (by decide +kernel)
theorem ly_X6_17 : u_lay RX6 TX6 17 ∈ tw := tw_i 753 (by decide +kernel) (by decide +kernel)
theorem ly_X6_18 : u_lay RX6 TX6 18 ∈ tw := tw_i 755 (by decide +kernel) (by decide +kernel)
theorem ly_X6_19 : u_lay RX6 TX6 19 ∈ tw := tw_i 757 (by decide +kernel) (by decide +kernel)
theorem ly_X6_20 : u_lay RX6 TX6 20 ∈ tw := tw_i 759 (by decide +kernel) (by decide +kernel)
theorem in_X6 : ∀ w ∈ u_ws RX6 TX6 21, w ∈ tw := by
  intro w hw
  obtain ⟨k, hk, rfl⟩ := List.mem_map.mp hw
  have hk := List.mem_range.mp hk
  match k, hk with
  | 0, _ => exact ly_X6_0
  | 1, _ => exact ly_X6_1
  | 2, _ => exact ly_X6_2
  | 3, _ => exact ly_X6_3
  | 4, _ => exact ly_X6_4
  | 5, _ => exact ly_X6_5
  | 6, _ => exact ly_X6_6
  | 7, _ => exact ly_X6_7
  | 8, _ => exact ly_X6_8
  | 9, _ => exact ly_X6_9
  | 10, _ => exact ly_X6_10
  | 11, _ => exact ly_X6_11
  | 12, _ => exact ly_X6_12
  | 13, _ => exact ly_X6_13
  | 14, _ => exact ly_X6_14
  | 15, _ => exact ly_X6_15
  | 16, _ => exact ly_X6_16
  | 17, _ => exact ly_X6_17
  | 18, _ => exact ly_X6_18
  | 19, _ => exact ly_X6_19
  | 20, _ => exact ly_X6_20
  | k + 21, hk => exact absurd hk (by omega)
theorem isF_33 : isF 33 6 (fun ad a b => (match cellOf ad (fun _ => 0) 33 a b with | .inr q => q.2 | .inl _ => [])) := ⟨by decide, fun _ _ _ _ => rfl⟩
theorem isO_33 : isO 33 RX6 := ⟨6, _, _, isF_33, rfl, rfl⟩
section
variable {M : Mb} {rm : Room} {R : Option Value × Mm} {μ : Mm} {pc : Nat} {lo : List (Option Value)} {st : List Value}
theorem fl_X1_11 : Cond.fieldLink RX1 11 (TX1 0).1 (TX1 0).2.1 (TX1 0).2.2.1 ∈ tw := tw_i 97 (by decide +kernel) (by decide +kernel)
theorem gf_X1_11 (ho : M.1.cls = RX1) (d : decode M.2.1 pc = .ok (.getfield 11, 3)) (kk : G M rm R μ (pc + 3) lo (.ref 6 :: st)) : G M rm R μ pc lo (.ref 1 :: st) := g_getf (f := 0) ho isF_1 rfl in_X1 (by decide) fl_X1_11 (fun _ => rfl) d kk
theorem fl_X1_16 : Cond.fieldLink RX1 16 (TX1 1).1 (TX1 1).2.1 (TX1 1).2.2.1 ∈ tw := tw_i 98 (by decide +kernel) (by decide +kernel)
theorem gf_X1_16 (ho : M.1.cls = RX1) (d : decode M.2.1 pc = .ok (.getfield 16, 3)) (kk : G M rm R μ (pc + 3) lo (.ref 10 :: st)) : G M rm R μ pc lo (.ref 1 :: st) := g_getf (f := 1) ho isF_1 rfl in_X1 (by decide) fl_X1_16 (fun _ => rfl) d kk
theorem fl_X1_20 : Cond.fieldLink RX1 20 (TX1 2).1 (TX1 2).2.1 (TX1 2).2.2.1 ∈ tw := tw_i 99 (by decide +kernel) (by decide +kernel)
theorem gf_X1_20 (ho : M.1.cls = RX1) (d : decode M.2.1 pc = .ok (.getfield 20, 3)) (kk : G M rm R μ (pc + 3) lo (.int (μ.1 1 2) :: st)) : G M rm R μ pc lo (.ref 1 :: st) := g_getf (f := 2) ho isF_1 rfl in_X1 (by decide) fl_X1_20 (fun _ => rfl) d kk
theorem gp_X1_20 {x : Int32} (ho : M.1.cls = RX1) (d : decode M.2.1 pc = .ok (.putfield 20, 3)) (kk : G M rm R (sI μ 1 2 x) (pc + 3) lo st) : G M rm R μ pc lo (.int x :: .ref 1 :: st) := g_putf (f := 2) (ty0 := tyX1) ho isF_1 rfl in_X1 tyX1_ok nmX1 (by decide) fl_X1_20 rfl rfl rfl (fun _ => rfl) (fun _ _ _ => Nat.le_of_ble_eq_true rfl) sI_off (fun _ => rfl) d kk
theorem fl_X3_9 : Cond.fieldLink RX3 9 (TX3 0).1 (TX3 0).2.1 (TX3 0).2.2.1 ∈ tw := tw_i 117 (by decide +kernel) (by decide +kernel)
theorem gf_X3_9 (ho : M.1.cls = RX3) (d : decode M.2.1 pc = .ok (.getfield 9, 3)) (kk : G M rm R μ (pc + 3) lo (.ref 11 :: st)) : G M rm R μ pc lo (.ref 2 :: st) := g_getf (f := 0) ho isF_2 rfl in_X3 (by decide) fl_X3_9 (fun _ => rfl) d kk
theorem fl_X3_15 : Cond.fieldLink RX3 15 (TX3 1).1 (TX3 1).2.1 (TX3 1).2.2.1 ∈ tw := tw_i 118 (by decide +kernel) (by decide +kernel)
theorem gf_X3_15 (ho : M.1.cls = RX3) (d : decode M.2.1 pc = .ok (.getfield 15, 3)) (kk : G M rm R μ (pc + 3) lo (.int (μ.1 2 1) :: st)) : G M rm R μ pc lo (.ref 2 :: st) := g_getf (f := 1) ho isF_2 rfl in_X3 (by decide) fl_X3_15 (fun _ => rfl) d kk
theorem gp_X3_15 {x : Int32} (ho : M.1.cls = RX3) (d : decode M.2.1 pc = .ok (.putfield 15, 3)) (kk : G M rm R (sI μ 2 1 x) (pc + 3) lo st) : G M rm R μ pc lo (.int x :: .ref 2 :: st) := g_putf (f := 1) (ty0 := tyX3) ho isF_2 rfl in_X3 tyX3_ok nmX3 (by decide) fl_X3_15 rfl rfl rfl (fun _ => rfl) (fun _ _ _ => Nat.le_of_ble_eq_true rfl) sI_off (fun _ => rfl) d kk
theorem fl_X3_19 : Cond.fieldLink RX3 19 (TX3 2).1 (TX3 2).2.1 (TX3 2).2.2.1 ∈ tw := tw_i 120 (by decide +kernel) (by decide +kernel)
theorem gf_X3_19 (ho : M.1.cls = RX3) (d : decode M.2.1 pc = .ok (.getfield 19, 3)) (kk : G M rm R μ (pc + 3) lo (.int (μ.1 2 2) :: st)) : G M rm R μ pc lo (.ref 2 :: st) := g_getf (f := 2) ho isF_2 rfl in_X3 (by decide) fl_X3_19 (fun _ => rfl) d kk
theorem gp_X3_19 {x : Int32} (ho : M.1.cls = RX3) (d : decode M.2.1 pc = .ok (.putfield 19, 3)) (kk : G M rm R (sI μ 2 2 x) (pc + 3) lo st) : G M rm R μ pc lo (.int x :: .ref 2 :: st) := g_putf (f := 2) (ty0 := tyX3) ho isF_2 rfl in_X3 tyX3_ok nmX3 (by decide) fl_X3_19 rfl rfl rfl (fun _ => rfl) (fun _ _ _ => Nat.le_of_ble_eq_true rfl) sI_off (fun _ => rfl) d kk
theorem fl_X4_13 : Cond.fieldLink RX4 13 (TX4 0).1 (TX4 0).2.1 (TX4 0).2.2.1 ∈ tw := tw_i 137 (by decide +kernel) (by decide +kernel)
theorem gf_X4_13 (ho : M.1.cls = RX4) (d : decode M.2.1 pc = .ok (.getfield 13, 3)) (kk : G M rm R μ (pc + 3) lo (.ref 12 :: st)) : G M rm R μ pc lo (.ref 3 :: st) := g_getf (f := 0) ho isF_3 rfl in_X4 (by decide) fl_X4_13 (fun _ => rfl) d kk
theorem fl_X4_16 : Cond.fieldLink RX4 16 (TX4 1).1 (TX4 1).2.1 (TX4 1).2.2.1 ∈ tw := tw_i 138 (by decide +kernel) (by decide +kernel)
theorem gf_X4_16 (ho : M.1.cls = RX4) (d : decode M.2.1 pc = .ok (.getfield 16, 3)) (kk : G M rm R μ (pc + 3) lo (.ref 27 :: st)) : G M rm R μ pc lo (.ref 3 :: st) := g_getf (f := 1) ho isF_3 rfl in_X4 (by decide) fl_X4_16 (fun _ => rfl) d kk
theorem fl_X4_20 : Cond.fieldLink RX4 20 (TX4 2).1 (TX4 2).2.1 (TX4 2).2.2.1 ∈ tw := tw_i 139 (by decide +kernel) (by decide +kernel)
theorem gf_X4_20 (ho : M.1.cls = RX4) (d : decode M.2.1 pc = .ok (.getfield 20, 3)) (kk : G M rm R μ (pc + 3) lo (.ref 28 :: st)) : G M rm R μ pc lo (.ref 3 :: st) := g_getf (f := 2) ho isF_3 rfl in_X4 (by decide) fl_X4_20 (fun _ => rfl) d kk
theorem fl_X4_23 : Cond.fieldLink RX4 23 (TX4 3).1 (TX4 3).2.1 (TX4 3).2.2.1 ∈ tw := tw_i 140 (by decide +kernel) (by decide +kernel)
theorem gf_X4_23 (ho : M.1.cls = RX4) (d : decode M.2.1 pc = .ok (.getfield 23, 3)) (kk : G M rm R μ (pc + 3) lo (.long (μ.2 3 3) :: st)) : G M rm R μ pc lo (.ref 3 :: st) := g_getf (f := 3) ho isF_3 rfl in_X4 (by decide) fl_X4_23 (fun _ => rfl) d kk
theorem gp_X4_23 {x : Int64} (ho : M.1.cls = RX4) (d : decode M.2.1 pc = .ok (.putfield 23, 3)) (kk : G M rm R (sL μ 3 3 x) (pc + 3) lo st) : G M rm R μ pc lo (.long x :: .ref 3 :: st) := g_putf (f := 3) (ty0 := tyX4) ho isF_3 rfl in_X4 tyX4_ok nmX4 (by decide) fl_X4_23 rfl rfl rfl (fun _ => rfl) (fun _ _ _ => Nat.le_of_ble_eq_true rfl) sL_off (fun _ => rfl) d kk
theorem fl_X4_27 : Cond.fieldLink RX4 27 (TX4 4).1 (TX4 4).2.1 (TX4 4).2.2.1 ∈ tw := tw_i 142 (by decide +kernel) (by decide +kernel)
theorem gf_X4_27 (ho : M.1.cls = RX4) (d : decode M.2.1 pc = .ok (.getfield 27, 3)) (kk : G M rm R μ (pc + 3) lo (.int (μ.1 3 4) :: st)) : G M rm R μ pc lo (.ref 3 :: st) := g_getf (f := 4) ho isF_3 rfl in_X4 (by decide) fl_X4_27 (fun _ => rfl) d kk
theorem gp_X4_27 {x : Int32} (hb : narrow .boolean (.int x) = .int x) (hb2 : fits .boolean (.int x) = true) (ho : M.1.cls = RX4) (d : decode M.2.1 pc = .ok (.putfield 27, 3)) (kk : G M rm R (sI μ 3 4 x) (pc + 3) lo st) : G M rm R μ pc lo (.int x :: .ref 3 :: st) := g_putf (f := 4) (ty0 := tyX4) ho isF_3 rfl in_X4 tyX4_ok nmX4 (by decide) fl_X4_27 rfl hb hb2 (fun _ => rfl) (fun _ _ _ => Nat.le_of_ble_eq_true rfl) sI_off (fun _ => rfl) d kk
theorem fl_X2_11 : Cond.fieldLink RX2 11 (TX2 0).1 (TX2 0).2.1 (TX2 0).2.2.1 ∈ tw := tw_i 162 (by decide +kernel) (by decide +kernel)
theorem gf_X2_11 (ho : M.1.cls = RX2) (d : decode M.2.1 pc = .ok (.getfield 11, 3)) (kk : G M rm R μ (pc + 3) lo (.ref 29 :: st)) : G M rm R μ pc lo (.ref 4 :: st) := g_getf (f := 0) ho isF_4 rfl in_X2 (by decide) fl_X2_11 (fun _ => rfl) d kk
theorem fl_X2_15 : Cond.fieldLink RX2 15 (TX2 1).1 (TX2 1).2.1 (TX2 1).2.2.1 ∈ tw := tw_i 163 (by decide +kernel) (by decide +kernel)
theorem gf_X2_15 (ho : M.1.cls = RX2) (d : decode M.2.1 pc = .ok (.getfield 15, 3)) (kk : G M rm R μ (pc + 3) lo (.ref 30 :: st)) : G M rm R μ pc lo (.ref 4 :: st) := g_getf (f := 1) ho isF_4 rfl in_X2 (by decide) fl_X2_15 (fun _ => rfl) d kk
theorem fl_X2_18 : Cond.fieldLink RX2 18 (TX2 2).1 (TX2 2).2.1 (TX2 2).2.2.1 ∈ tw := tw_i 164 (by decide +kernel) (by decide +kernel)
theorem gf_X2_18 (ho : M.1.cls = RX2) (d : decode M.2.1 pc = .ok (.getfield 18, 3)) (kk : G M rm R μ (pc + 3) lo (.ref 31 :: st)) : G M rm R μ pc lo (.ref 4 :: st) := g_getf (f := 2) ho isF_4 rfl in_X2 (by decide) fl_X2_18 (fun _ => rfl) d kk
theorem fl_X2_21 : Cond.fieldLink RX2 21 (TX2 3).1 (TX2 3).2.1 (TX2 3).2.2.1 ∈ tw := tw_i 165 (by decide +kernel) (by decide +kernel)
theorem gf_X2_21 (ho : M.1.cls = RX2) (d : decode M.2.1 pc = .ok (.getfield 21, 3)) (kk : G M rm R μ (pc + 3) lo (.int (μ.1 4 3) :: st)) : G M rm R μ pc lo (.ref 4 :: st) := g_getf (f := 3) ho isF_4 rfl in_X2 (by decide) fl_X2_21 (fun _ => rfl) d kk
theorem gp_X2_21 {x : Int32} (ho : M.1.cls = RX2) (d : decode M.2.1 pc = .ok (.putfield 21, 3)) (kk : G M rm R (sI μ 4 3 x) (pc + 3) lo st) : G M rm R μ pc lo (.int x :: .ref 4 :: st) := g_putf (f := 3) (ty0 := tyX2) ho isF_4 rfl in_X2 tyX2_ok nmX2 (by decide) fl_X2_21 rfl rfl rfl (fun _ => rfl) (fun _ _ _ => Nat.le_of_ble_eq_true rfl) sI_off (fun _ => rfl) d kk
theorem fl_X0_9 : Cond.fieldLink RX0 9 (TX0 0).1 (TX0 0).2.1 (TX0 0).2.2.1 ∈ tw := tw_i 182 (by decide +kernel) (by decide +kernel)
theorem gf_X0_9 (ho : M.1.cls = RX0) (d : decode M.2.1 pc = .ok (.getfield 9, 3)) (kk : G M rm R μ (pc + 3) lo (.ref 32 :: st)) : G M rm R μ pc lo (.ref 5 :: st) := g_getf (f := 0) ho isF_5 rfl in_X0 (by decide) fl_X0_9 (fun _ => rfl) d kk
theorem fl_X0_13 : Cond.fieldLink RX0 13 (TX0 1).1 (TX0 1).2.1 (TX0 1).2.2.1 ∈ tw := tw_i 183 (by decide +kernel) (by decide +kernel)
theorem gf_X0_13 (ho : M.1.cls = RX0) (d : decode M.2.1 pc = .ok (.getfield 13, 3)) (kk : G M rm R μ (pc + 3) lo (.int (μ.1 5 1) :: st)) : G M rm R μ pc lo (.ref 5 :: st) := g_getf (f := 1) ho isF_5 rfl in_X0 (by decide) fl_X0_13 (fun _ => rfl) d kk
theorem gp_X0_13 {x : Int32} (ho : M.1.cls = RX0) (d : decode M.2.1 pc = .ok (.putfield 13, 3)) (kk : G M rm R (sI μ 5 1 x) (pc + 3) lo st) : G M rm R μ pc lo (.int x :: .ref 5 :: st) := g_putf (f := 1) (ty0 := tyX0) ho isF_5 rfl in_X0 tyX0_ok nmX0 (by decide) fl_X0_13 rfl rfl rfl (fun _ => rfl) (fun _ _ _ => Nat.le_of_ble_eq_true rfl) sI_off (fun _ => rfl) d kk
theorem fl_X5_10 : Cond.fieldLink RX5 10 (TX5 0).1 (TX5 0).2.1 (TX5 0).2.2.1 ∈ tw := tw_i 190 (by decide +kernel) (by decide +kernel)
theorem gf_X5_10 (ho : M.1.cls = RX5) (d : decode M.2.1 pc = .ok (.getfield 10, 3)) (kk : G M rm R μ (pc + 3) lo (.ref 1 :: st)) : G M rm R μ pc lo (.ref 0 :: st) := g_getf (f := 0) ho isF_0 rfl in_X5 (by decide) fl_X5_10 (fun _ => rfl) d kk
theorem fl_X5_19 : Cond.fieldLink RX5 19 (TX5 1).1 (TX5 1).2.1 (TX5 1).2.2.1 ∈ tw := tw_i 191 (by decide +kernel) (by decide +kernel)
theorem gf_X5_19 (ho : M.1.cls = RX5) (d : decode M.2.1 pc = .ok (.getfield 19, 3)) (kk : G M rm R μ (pc + 3) lo (.ref 2 :: st)) : G M rm R μ pc lo (.ref 0 :: st) := g_getf (f := 1) ho isF_0 rfl in_X5 (by decide) fl_X5_19 (fun _ => rfl) d kk
theorem fl_X5_26 : Cond.fieldLink RX5 26 (TX5 2).1 (TX5 2).2.1 (TX5 2).2.2.1 ∈ tw := tw_i 192 (by decide +kernel) (by decide +kernel)
theorem gf_X5_26 (ho : M.1.cls = RX5) (d : decode M.2.1 pc = .ok (.getfield 26, 3)) (kk : G M rm R μ (pc + 3) lo (.ref 3 :: st)) : G M rm R μ pc lo (.ref 0 :: st) := g_getf (f := 2) ho isF_0 rfl in_X5 (by decide) fl_X5_26 (fun _ => rfl) d kk
theorem fl_X5_33 : Cond.fieldLink RX5 33 (TX5 3).1 (TX5 3).2.1 (TX5 3).2.2.1 ∈ tw := tw_i 193 (by decide +kernel) (by decide +kernel)
theorem gf_X5_33 (ho : M.1.cls = RX5) (d : decode M.2.1 pc = .ok (.getfield 33, 3)) (kk : G M rm R μ (pc + 3) lo (.ref 4 :: st)) : G M rm R μ pc lo (.ref 0 :: st) := g_getf (f := 3) ho isF_0 rfl in_X5 (by decide) fl_X5_33 (fun _ => rfl) d kk
theorem fl_X5_40 : Cond.fieldLink RX5 40 (TX5 4).1 (TX5 4).2.1 (TX5 4).2.2.1 ∈ tw := tw_i 194 (by decide +kernel) (by decide +kernel)
theorem gf_X5_40 (ho : M.1.cls = RX5) (d : decode M.2.1 pc = .ok (.getfield 40, 3)) (kk : G M rm R μ (pc + 3) lo (.ref 5 :: st)) : G M rm R μ pc lo (.ref 0 :: st) := g_getf (f := 4) ho isF_0 rfl in_X5 (by decide) fl_X5_40 (fun _ => rfl) d kk
theorem fl_X5_44 : Cond.fieldLink RX5 44 (TX5 5).1 (TX5 5).2.1 (TX5 5).2.2.1 ∈ tw := tw_i 195 (by decide +kernel) (by decide +kernel)
theorem gf_X5_44 (ho : M.1.cls = RX5) (d : decode M.2.1 pc = .ok (.getfield 44, 3)) (kk : G M rm R μ (pc + 3) lo (.int (μ.1 0 5) :: st)) : G M rm R μ pc lo (.ref 0 :: st) := g_getf (f := 5) ho isF_0 rfl in_X5 (by decide) fl_X5_44 (fun _ => rfl) d kk
theorem gp_X5_44 {x : Int32} (ho : M.1.cls = RX5) (d : decode M.2.1 pc = .ok (.putfield 44, 3)) (kk : G M rm R (sI μ 0 5 x) (pc + 3) lo st) : G M rm R μ pc lo (.int x :: .ref 0 :: st) := g_putf (f := 5) (ty0 := tyX5) ho isF_0 rfl in_X5 tyX5_ok nmX5 (by decide) fl_X5_44 rfl rfl rfl (fun _ => rfl) (fun _ _ _ => Nat.le_of_ble_eq_true rfl) sI_off (fun _ => rfl) d kk
theorem fl_X6_7 : Cond.fieldLink RX6 7 (TX6 0).1 (TX6 0).2.1 (TX6 0).2.2.1 ∈ tw := tw_i 698 (by decide +kernel) (by decide +kernel)
theorem gf_X6_7 (ho : M.1.cls = RX6) (d : decode M.2.1 pc = .ok (.getfield 7, 3)) (kk : G M rm R μ (pc + 3) lo (.int (μ.1 33 0) :: st)) : G M rm R μ pc lo (.ref 33 :: st) := g_getf (f := 0) ho isF_33 rfl in_X6 (by decide) fl_X6_7 (fun _ => rfl) d kk
theorem gp_X6_7 {x : Int32} (ho : M.1.cls = RX6) (d : decode M.2.1 pc = .ok (.putfield 7, 3)) (kk : G M rm R (sI μ 33 0 x) (pc + 3) lo st) : G M rm R μ pc lo (.int x :: .ref 33 :: st) := g_putf (f := 0) (ty0 := tyX6) ho isF_33 rfl in_X6 tyX6_ok nmX6 (by decide) fl_X6_7 rfl rfl rfl (fun _ => rfl) (fun _ _ _ => Nat.le_of_ble_eq_true rfl) sI_off (fun _ => rfl) d kk
theorem fl_X6_13 : Cond.fieldLink RX6 13 (TX6 1).1 (TX6 1).2.1 (TX6 1).2.2.1 ∈ tw := tw_i 699 (by decide +kernel) (by decide +kernel)
theorem gf_X6_13 (ho : M.1.cls = RX6) (d : decode M.2.1 pc = .ok (.getfield 13, 3)) (kk : G M rm R μ (pc + 3) lo (.ref 34 :: st)) : G M rm R μ pc lo (.ref 33 :: st) := g_getf (f := 1) ho isF_33 rfl in_X6 (by decide) fl_X6_13 (fun _ => rfl) d kk
theorem fl_X6_17 : Cond.fieldLink RX6 17 (TX6 2).1 (TX6 2).2.1 (TX6 2).2.2.1 ∈ tw := tw_i 700 (by decide +kernel) (by decide +kernel)
theorem gf_X6_17 (ho : M.1.cls = RX6) (d : decode M.2.1 pc = .ok (.getfield 17, 3)) (kk : G M rm R μ (pc + 3) lo (.ref 35 :: st)) : G M rm R μ pc lo (.ref 33 :: st) := g_getf (f := 2) ho isF_33 rfl in_X6 (by decide) fl_X6_17 (fun _ => rfl) d kk
theorem fl_X6_20 : Cond.fieldLink RX6 20 (TX6 3).1 (TX6 3).2.1 (TX6 3).2.2.1 ∈ tw := tw_i 701 (by decide +kernel) (by decide +kernel)
theorem gf_X6_20 (ho : M.1.cls = RX6) (d : decode M.2.1 pc = .ok (.getfield 20, 3)) (kk : G M rm R μ (pc + 3) lo (.ref 36 :: st)) : G M rm R μ pc lo (.ref 33 :: st) := g_getf (f := 3) ho isF_33 rfl in_X6 (by decide) fl_X6_20 (fun _ => rfl) d kk
theorem fl_X6_23 : Cond.fieldLink RX6 23 (TX6 4).1 (TX6 4).2.1 (TX6 4).2.2.1 ∈ tw := tw_i 702 (by decide +kernel) (by decide +kernel)
theorem gf_X6_23 (ho : M.1.cls = RX6) (d : decode M.2.1 pc = .ok (.getfield 23, 3)) (kk : G M rm R μ (pc + 3) lo (.ref 37 :: st)) : G M rm R μ pc lo (.ref 33 :: st) := g_getf (f := 4) ho isF_33 rfl in_X6 (by decide) fl_X6_23 (fun _ => rfl) d kk
theorem fl_X6_27 : Cond.fieldLink RX6 27 (TX6 5).1 (TX6 5).2.1 (TX6 5).2.2.1 ∈ tw := tw_i 703 (by decide +kernel) (by decide +kernel)
theorem gf_X6_27 (ho : M.1.cls = RX6) (d : decode M.2.1 pc = .ok (.getfield 27, 3)) (kk : G M rm R μ (pc + 3) lo (.int (μ.1 33 5) :: st)) : G M rm R μ pc lo (.ref 33 :: st) := g_getf (f := 5) ho isF_33 rfl in_X6 (by decide) fl_X6_27 (fun _ => rfl) d kk
theorem gp_X6_27 {x : Int32} (ho : M.1.cls = RX6) (d : decode M.2.1 pc = .ok (.putfield 27, 3)) (kk : G M rm R (sI μ 33 5 x) (pc + 3) lo st) : G M rm R μ pc lo (.int x :: .ref 33 :: st) := g_putf (f := 5) (ty0 := tyX6) ho isF_33 rfl in_X6 tyX6_ok nmX6 (by decide) fl_X6_27 rfl rfl rfl (fun _ => rfl) (fun _ _ _ => Nat.le_of_ble_eq_true rfl) sI_off (fun _ => rfl) d kk
theorem fl_X6_83 : Cond.fieldLink RX6 83 (TX6 6).1 (TX6 6).2.1 (TX6 6).2.2.1 ∈ tw := tw_i 704 (by decide +kernel) (by decide +kernel)
theorem gf_X6_83 (ho : M.1.cls = RX6) (d : decode M.2.1 pc = .ok (.getfield 83, 3)) (kk : G M rm R μ (pc + 3) lo (.int (μ.1 33 6) :: st)) : G M rm R μ pc lo (.ref 33 :: st) := g_getf (f := 6) ho isF_33 rfl in_X6 (by decide) fl_X6_83 (fun _ => rfl) d kk
theorem gp_X6_83 {x : Int32} (ho : M.1.cls = RX6) (d : decode M.2.1 pc = .ok (.putfield 83, 3)) (kk : G M rm R (sI μ 33 6 x) (pc + 3) lo st) : G M rm R μ pc lo (.int x :: .ref 33 :: st) := g_putf (f := 6) (ty0 := tyX6) ho isF_33 rfl in_X6 tyX6_ok nmX6 (by decide) fl_X6_83 rfl rfl rfl (fun _ => rfl) (fun _ _ _ => Nat.le_of_ble_eq_true rfl) sI_off (fun _ => rfl) d kk
theorem fl_X6_30 : Cond.fieldLink RX6 30 (TX6 7).1 (TX6 7).2.1 (TX6 7).2.2.1 ∈ tw := tw_i 705 (by decide +kernel) (by decide +kernel)
theorem gf_X6_30 (ho : M.1.cls = RX6) (d : decode M.2.1 pc = .ok (.getfield 30, 3)) (kk : G M rm R μ (pc + 3) lo (.ref 38 :: st)) : G M rm R μ pc lo (.ref 33 :: st) := g_getf (f := 7) ho isF_33 rfl in_X6 (by decide) fl_X6_30 (fun _ => rfl) d kk
theorem fl_X6_64 : Cond.fieldLink RX6 64 (TX6 8).1 (TX6 8).2.1 (TX6 8).2.2.1 ∈ tw := tw_i 706 (by decide +kernel) (by decide +kernel)
theorem gf_X6_64 (ho : M.1.cls = RX6) (d : decode M.2.1 pc = .ok (.getfield 64, 3)) (kk : G M rm R μ (pc + 3) lo (.long (μ.2 33 8) :: st)) : G M rm R μ pc lo (.ref 33 :: st) := g_getf (f := 8) ho isF_33 rfl in_X6 (by decide) fl_X6_64 (fun _ => rfl) d kk
theorem gp_X6_64 {x : Int64} (ho : M.1.cls = RX6) (d : decode M.2.1 pc = .ok (.putfield 64, 3)) (kk : G M rm R (sL μ 33 8 x) (pc + 3) lo st) : G M rm R μ pc lo (.long x :: .ref 33 :: st) := g_putf (f := 8) (ty0 := tyX6) ho isF_33 rfl in_X6 tyX6_ok nmX6 (by decide) fl_X6_64 rfl rfl rfl (fun _ => rfl) (fun _ _ _ => Nat.le_of_ble_eq_true rfl) sL_off (fun _ => rfl) d kk
theorem fl_X6_33 : Cond.fieldLink RX6 33 (TX6 9).1 (TX6 9).2.1 (TX6 9).2.2.1 ∈ tw := tw_i 707 (by decide +kernel) (by decide +kernel)
theorem gf_X6_33 (ho : M.1.cls = RX6) (d : decode M.2.1 pc = .ok (.getfield 33, 3)) (kk : G M rm R μ (pc + 3) lo (.ref 39 :: st)) : G M rm R μ pc lo (.ref 33 :: st) := g_getf (f := 9) ho isF_33 rfl in_X6 (by decide) fl_X6_33 (fun _ => rfl) d kk
theorem fl_X6_37 : Cond.fieldLink RX6 37 (TX6 10).1 (TX6 10).2.1 (TX6 10).2.2.1 ∈ tw := tw_i 708 (by decide +kernel) (by decide +kernel)
theorem gf_X6_37 (ho : M.1.cls = RX6) (d : decode M.2.1 pc = .ok (.getfield 37, 3)) (kk : G M rm R μ (pc + 3) lo (.int (μ.1 33 10) :: st)) : G M rm R μ pc lo (.ref 33 :: st) := g_getf (f := 10) ho isF_33 rfl in_X6 (by decide) fl_X6_37 (fun _ => rfl) d kk
theorem gp_X6_37 {x : Int32} (ho : M.1.cls = RX6) (d : decode M.2.1 pc = .ok (.putfield 37, 3)) (kk : G M rm R (sI μ 33 10 x) (pc + 3) lo st) : G M rm R μ pc lo (.int x :: .ref 33 :: st) := g_putf (f := 10) (ty0 := tyX6) ho isF_33 rfl in_X6 tyX6_ok nmX6 (by decide) fl_X6_37 rfl rfl rfl (fun _ => rfl) (fun _ _ _ => Nat.le_of_ble_eq_true rfl) sI_off (fun _ => rfl) d kk
theorem fl_X6_40 : Cond.fieldLink RX6 40 (TX6 11).1 (TX6 11).2.1 (TX6 11).2.2.1 ∈ tw := tw_i 709 (by decide +kernel) (by decide +kernel)
theorem gf_X6_40 (ho : M.1.cls = RX6) (d : decode M.2.1 pc = .ok (.getfield 40, 3)) (kk : G M rm R μ (pc + 3) lo (.ref 40 :: st)) : G M rm R μ pc lo (.ref 33 :: st) := g_getf (f := 11) ho isF_33 rfl in_X6 (by decide) fl_X6_40 (fun _ => rfl) d kk
theorem fl_X6_43 : Cond.fieldLink RX6 43 (TX6 12).1 (TX6 12).2.1 (TX6 12).2.2.1 ∈ tw := tw_i 710 (by decide +kernel) (by decide +kernel)
theorem gf_X6_43 (ho : M.1.cls = RX6) (d : decode M.2.1 pc = .ok (.getfield 43, 3)) (kk : G M rm R μ (pc + 3) lo (.ref 41 :: st)) : G M rm R μ pc lo (.ref 33 :: st) := g_getf (f := 12) ho isF_33 rfl in_X6 (by decide) fl_X6_43 (fun _ => rfl) d kk
theorem fl_X6_104 : Cond.fieldLink RX6 104 (TX6 13).1 (TX6 13).2.1 (TX6 13).2.2.1 ∈ tw := tw_i 711 (by decide +kernel) (by decide +kernel)
theorem gf_X6_104 (ho : M.1.cls = RX6) (d : decode M.2.1 pc = .ok (.getfield 104, 3)) (kk : G M rm R μ (pc + 3) lo (.int (μ.1 33 13) :: st)) : G M rm R μ pc lo (.ref 33 :: st) := g_getf (f := 13) ho isF_33 rfl in_X6 (by decide) fl_X6_104 (fun _ => rfl) d kk
theorem gp_X6_104 {x : Int32} (ho : M.1.cls = RX6) (d : decode M.2.1 pc = .ok (.putfield 104, 3)) (kk : G M rm R (sI μ 33 13 x) (pc + 3) lo st) : G M rm R μ pc lo (.int x :: .ref 33 :: st) := g_putf (f := 13) (ty0 := tyX6) ho isF_33 rfl in_X6 tyX6_ok nmX6 (by decide) fl_X6_104 rfl rfl rfl (fun _ => rfl) (fun _ _ _ => Nat.le_of_ble_eq_true rfl) sI_off (fun _ => rfl) d kk
theorem fl_X6_61 : Cond.fieldLink RX6 61 (TX6 14).1 (TX6 14).2.1 (TX6 14).2.2.1 ∈ tw := tw_i 712 (by decide +kernel) (by decide +kernel)
theorem gf_X6_61 (ho : M.1.cls = RX6) (d : decode M.2.1 pc = .ok (.getfield 61, 3)) (kk : G M rm R μ (pc + 3) lo (.int (μ.1 33 14) :: st)) : G M rm R μ pc lo (.ref 33 :: st) := g_getf (f := 14) ho isF_33 rfl in_X6 (by decide) fl_X6_61 (fun _ => rfl) d kk
theorem gp_X6_61 {x : Int32} (ho : M.1.cls = RX6) (d : decode M.2.1 pc = .ok (.putfield 61, 3)) (kk : G M rm R (sI μ 33 14 x) (pc + 3) lo st) : G M rm R μ pc lo (.int x :: .ref 33 :: st) := g_putf (f := 14) (ty0 := tyX6) ho isF_33 rfl in_X6 tyX6_ok nmX6 (by decide) fl_X6_61 rfl rfl rfl (fun _ => rfl) (fun _ _ _ => Nat.le_of_ble_eq_true rfl) sI_off (fun _ => rfl) d kk
theorem fl_X6_58 : Cond.fieldLink RX6 58 (TX6 15).1 (TX6 15).2.1 (TX6 15).2.2.1 ∈ tw := tw_i 713 (by decide +kernel) (by decide +kernel)
theorem gf_X6_58 (ho : M.1.cls = RX6) (d : decode M.2.1 pc = .ok (.getfield 58, 3)) (kk : G M rm R μ (pc + 3) lo (.int (μ.1 33 15) :: st)) : G M rm R μ pc lo (.ref 33 :: st) := g_getf (f := 15) ho isF_33 rfl in_X6 (by decide) fl_X6_58 (fun _ => rfl) d kk
theorem gp_X6_58 {x : Int32} (ho : M.1.cls = RX6) (d : decode M.2.1 pc = .ok (.putfield 58, 3)) (kk : G M rm R (sI μ 33 15 x) (pc + 3) lo st) : G M rm R μ pc lo (.int x :: .ref 33 :: st) := g_putf (f := 15) (ty0 := tyX6) ho isF_33 rfl in_X6 tyX6_ok nmX6 (by decide) fl_X6_58 rfl rfl rfl (fun _ => rfl) (fun _ _ _ => Nat.le_of_ble_eq_true rfl) sI_off (fun _ => rfl) d kk
theorem fl_X6_46 : Cond.fieldLink RX6 46 (TX6 16).1 (TX6 16).2.1 (TX6 16).2.2.1 ∈ tw := tw_i 714 (by decide +kernel) (by decide +kernel)
theorem gf_X6_46 (ho : M.1.cls = RX6) (d : decode M.2.1 pc = .ok (.getfield 46, 3)) (kk : G M rm R μ (pc + 3) lo (.ref 42 :: st)) : G M rm R μ pc lo (.ref 33 :: st) := g_getf (f := 16) ho isF_33 rfl in_X6 (by decide) fl_X6_46 (fun _ => rfl) d kk
theorem fl_X6_49 : Cond.fieldLink RX6 49 (TX6 17).1 (TX6 17).2.1 (TX6 17).2.2.1 ∈ tw := tw_i 715 (by decide +kernel) (by decide +kernel)
theorem gf_X6_49 (ho : M.1.cls = RX6) (d : decode M.2.1 pc = .ok (.getfield 49, 3)) (kk : G M rm R μ (pc + 3) lo (.ref 43 :: st)) : G M rm R μ pc lo (.ref 33 :: st) := g_getf (f := 17) ho isF_33 rfl in_X6 (by decide) fl_X6_49 (fun _ => rfl) d kk
theorem fl_X6_52 : Cond.fieldLink RX6 52 (TX6 18).1 (TX6 18).2.1 (TX6 18).2.2.1 ∈ tw := tw_i 716 (by decide +kernel) (by decide +kernel)
theorem gf_X6_52 (ho : M.1.cls = RX6) (d : decode M.2.1 pc = .ok (.getfield 52, 3)) (kk : G M rm R μ (pc + 3) lo (.ref 44 :: st)) : G M rm R μ pc lo (.ref 33 :: st) := g_getf (f := 18) ho isF_33 rfl in_X6 (by decide) fl_X6_52 (fun _ => rfl) d kk
theorem fl_X6_55 : Cond.fieldLink RX6 55 (TX6 19).1 (TX6 19).2.1 (TX6 19).2.2.1 ∈ tw := tw_i 717 (by decide +kernel) (by decide +kernel)
theorem gf_X6_55 (ho : M.1.cls = RX6) (d : decode M.2.1 pc = .ok (.getfield 55, 3)) (kk : G M rm R μ (pc + 3) lo (.ref 45 :: st)) : G M rm R μ pc lo (.ref 33 :: st) := g_getf (f := 19) ho isF_33 rfl in_X6 (by decide) fl_X6_55 (fun _ => rfl) d kk
theorem fl_X6_133 : Cond.fieldLink RX6 133 (TX6 20).1 (TX6 20).2.1 (TX6 20).2.2.1 ∈ tw := tw_i 718 (by decide +kernel) (by decide +kernel)
theorem gf_X6_133 (ho : M.1.cls = RX6) (d : decode M.2.1 pc = .ok (.getfield 133, 3)) (kk : G M rm R μ (pc + 3) lo (.long (μ.2 33 20) :: st)) : G M rm R μ pc lo (.ref 33 :: st) := g_getf (f := 20) ho isF_33 rfl in_X6 (by decide) fl_X6_133 (fun _ => rfl) d kk
theorem gp_X6_133 {x : Int64} (ho : M.1.cls = RX6) (d : decode M.2.1 pc = .ok (.putfield 133, 3)) (kk : G M rm R (sL μ 33 20 x) (pc + 3) lo st) : G M rm R μ pc lo (.long x :: .ref 33 :: st) := g_putf (f := 20) (ty0 := tyX6) ho isF_33 rfl in_X6 tyX6_ok nmX6 (by decide) fl_X6_133 rfl rfl rfl (fun _ => rfl) (fun _ _ _ => Nat.le_of_ble_eq_true rfl) sL_off (fun _ => rfl) d kk
theorem fn_X4_31 : Cond.fieldLinkNest RX4 31 (TX1 2).1 (TX1 2).2.1 (TX1 2).2.2.1 "HoleMask" ∈ nw := nw_i 100 (by decide +kernel) rfl
theorem gf_X4_31 (ho : M.1.cls = RX4) (d : decode M.2.1 pc = .ok (.getfield 31, 3)) (kk : G M rm R μ (pc + 3) lo (.int (μ.1 1 2) :: st)) : G M rm R μ pc lo (.ref 1 :: st) := g_getN (f := 2) ho isF_1 rfl in_X1 (by decide) fn_X4_31 (fun _ => rfl) d kk
theorem gp_X4_31 {x : Int32} (ho : M.1.cls = RX4) (d : decode M.2.1 pc = .ok (.putfield 31, 3)) (kk : G M rm R (sI μ 1 2 x) (pc + 3) lo st) : G M rm R μ pc lo (.int x :: .ref 1 :: st) := g_putN (f := 2) (ty0 := tyX1) ho isF_1 rfl in_X1 tyX1_ok nmX1 (by decide) fn_X4_31 rfl rfl rfl (fun _ => rfl) (fun _ _ _ => Nat.le_of_ble_eq_true rfl) sI_off (fun _ => rfl) d kk
theorem fn_X2_37 : Cond.fieldLinkNest RX2 37 (TX1 2).1 (TX1 2).2.1 (TX1 2).2.2.1 "HoleMask" ∈ nw := nw_i 101 (by decide +kernel) rfl
theorem gf_X2_37 (ho : M.1.cls = RX2) (d : decode M.2.1 pc = .ok (.getfield 37, 3)) (kk : G M rm R μ (pc + 3) lo (.int (μ.1 1 2) :: st)) : G M rm R μ pc lo (.ref 1 :: st) := g_getN (f := 2) ho isF_1 rfl in_X1 (by decide) fn_X2_37 (fun _ => rfl) d kk
theorem gp_X2_37 {x : Int32} (ho : M.1.cls = RX2) (d : decode M.2.1 pc = .ok (.putfield 37, 3)) (kk : G M rm R (sI μ 1 2 x) (pc + 3) lo st) : G M rm R μ pc lo (.int x :: .ref 1 :: st) := g_putN (f := 2) (ty0 := tyX1) ho isF_1 rfl in_X1 tyX1_ok nmX1 (by decide) fn_X2_37 rfl rfl rfl (fun _ => rfl) (fun _ _ _ => Nat.le_of_ble_eq_true rfl) sI_off (fun _ => rfl) d kk
theorem fn_X5_77 : Cond.fieldLinkNest RX5 77 (TX1 2).1 (TX1 2).2.1 (TX1 2).2.2.1 "HoleMask" ∈ nw := nw_i 102 (by decide +kernel) rfl
theorem gf_X5_77 (ho : M.1.cls = RX5) (d : decode M.2.1 pc = .ok (.getfield 77, 3)) (kk : G M rm R μ (pc + 3) lo (.int (μ.1 1 2) :: st)) : G M rm R μ pc lo (.ref 1 :: st) := g_getN (f := 2) ho isF_1 rfl in_X1 (by decide) fn_X5_77 (fun _ => rfl) d kk
theorem gp_X5_77 {x : Int32} (ho : M.1.cls = RX5) (d : decode M.2.1 pc = .ok (.putfield 77, 3)) (kk : G M rm R (sI μ 1 2 x) (pc + 3) lo st) : G M rm R μ pc lo (.int x :: .ref 1 :: st) := g_putN (f := 2) (ty0 := tyX1) ho isF_1 rfl in_X1 tyX1_ok nmX1 (by decide) fn_X5_77 rfl rfl rfl (fun _ => rfl) (fun _ _ _ => Nat.le_of_ble_eq_true rfl) sI_off (fun _ => rfl) d kk
theorem fn_X5_67 : Cond.fieldLinkNest RX5 67 (TX3 1).1 (TX3 1).2.1 (TX3 1).2.2.1 "HoleMask" ∈ nw := nw_i 119 (by decide +kernel) rfl
theorem gf_X5_67 (ho : M.1.cls = RX5) (d : decode M.2.1 pc = .ok (.getfield 67, 3)) (kk : G M rm R μ (pc + 3) lo (.int (μ.1 2 1) :: st)) : G M rm R μ pc lo (.ref 2 :: st) := g_getN (f := 1) ho isF_2 rfl in_X3 (by decide) fn_X5_67 (fun _ => rfl) d kk
theorem gp_X5_67 {x : Int32} (ho : M.1.cls = RX5) (d : decode M.2.1 pc = .ok (.putfield 67, 3)) (kk : G M rm R (sI μ 2 1 x) (pc + 3) lo st) : G M rm R μ pc lo (.int x :: .ref 2 :: st) := g_putN (f := 1) (ty0 := tyX3) ho isF_2 rfl in_X3 tyX3_ok nmX3 (by decide) fn_X5_67 rfl rfl rfl (fun _ => rfl) (fun _ _ _ => Nat.le_of_ble_eq_true rfl) sI_off (fun _ => rfl) d kk
theorem fn_X5_64 : Cond.fieldLinkNest RX5 64 (TX3 2).1 (TX3 2).2.1 (TX3 2).2.2.1 "HoleMask" ∈ nw := nw_i 121 (by decide +kernel) rfl
theorem gf_X5_64 (ho : M.1.cls = RX5) (d : decode M.2.1 pc = .ok (.getfield 64, 3)) (kk : G M rm R μ (pc + 3) lo (.int (μ.1 2 2) :: st)) : G M rm R μ pc lo (.ref 2 :: st) := g_getN (f := 2) ho isF_2 rfl in_X3 (by decide) fn_X5_64 (fun _ => rfl) d kk
theorem gp_X5_64 {x : Int32} (ho : M.1.cls = RX5) (d : decode M.2.1 pc = .ok (.putfield 64, 3)) (kk : G M rm R (sI μ 2 2 x) (pc + 3) lo st) : G M rm R μ pc lo (.int x :: .ref 2 :: st) := g_putN (f := 2) (ty0 := tyX3) ho isF_2 rfl in_X3 tyX3_ok nmX3 (by decide) fn_X5_64 rfl rfl rfl (fun _ => rfl) (fun _ _ _ => Nat.le_of_ble_eq_true rfl) sI_off (fun _ => rfl) d kk
theorem fn_X5_171 : Cond.fieldLinkNest RX5 171 (TX4 3).1 (TX4 3).2.1 (TX4 3).2.2.1 "HoleMask" ∈ nw := nw_i 141 (by decide +kernel) rfl
theorem gf_X5_171 (ho : M.1.cls = RX5) (d : decode M.2.1 pc = .ok (.getfield 171, 3)) (kk : G M rm R μ (pc + 3) lo (.long (μ.2 3 3) :: st)) : G M rm R μ pc lo (.ref 3 :: st) := g_getN (f := 3) ho isF_3 rfl in_X4 (by decide) fn_X5_171 (fun _ => rfl) d kk
theorem gp_X5_171 {x : Int64} (ho : M.1.cls = RX5) (d : decode M.2.1 pc = .ok (.putfield 171, 3)) (kk : G M rm R (sL μ 3 3 x) (pc + 3) lo st) : G M rm R μ pc lo (.long x :: .ref 3 :: st) := g_putN (f := 3) (ty0 := tyX4) ho isF_3 rfl in_X4 tyX4_ok nmX4 (by decide) fn_X5_171 rfl rfl rfl (fun _ => rfl) (fun _ _ _ => Nat.le_of_ble_eq_true rfl) sL_off (fun _ => rfl) d kk
theorem fn_X5_138 : Cond.fieldLinkNest RX5 138 (TX4 4).1 (TX4 4).2.1 (TX4 4).2.2.1 "HoleMask" ∈ nw := nw_i 143 (by decide +kernel) rfl
theorem gf_X5_138 (ho : M.1.cls = RX5) (d : decode M.2.1 pc = .ok (.getfield 138, 3)) (kk : G M rm R μ (pc + 3) lo (.int (μ.1 3 4) :: st)) : G M rm R μ pc lo (.ref 3 :: st) := g_getN (f := 4) ho isF_3 rfl in_X4 (by decide) fn_X5_138 (fun _ => rfl) d kk
theorem gp_X5_138 {x : Int32} (hb : narrow .boolean (.int x) = .int x) (hb2 : fits .boolean (.int x) = true) (ho : M.1.cls = RX5) (d : decode M.2.1 pc = .ok (.putfield 138, 3)) (kk : G M rm R (sI μ 3 4 x) (pc + 3) lo st) : G M rm R μ pc lo (.int x :: .ref 3 :: st) := g_putN (f := 4) (ty0 := tyX4) ho isF_3 rfl in_X4 tyX4_ok nmX4 (by decide) fn_X5_138 rfl hb hb2 (fun _ => rfl) (fun _ _ _ => Nat.le_of_ble_eq_true rfl) sI_off (fun _ => rfl) d kk
theorem fn_X5_126 : Cond.fieldLinkNest RX5 126 (TX2 3).1 (TX2 3).2.1 (TX2 3).2.2.1 "HoleMask" ∈ nw := nw_i 166 (by decide +kernel) rfl
theorem gf_X5_126 (ho : M.1.cls = RX5) (d : decode M.2.1 pc = .ok (.getfield 126, 3)) (kk : G M rm R μ (pc + 3) lo (.int (μ.1 4 3) :: st)) : G M rm R μ pc lo (.ref 4 :: st) := g_getN (f := 3) ho isF_4 rfl in_X2 (by decide) fn_X5_126 (fun _ => rfl) d kk
theorem gp_X5_126 {x : Int32} (ho : M.1.cls = RX5) (d : decode M.2.1 pc = .ok (.putfield 126, 3)) (kk : G M rm R (sI μ 4 3 x) (pc + 3) lo st) : G M rm R μ pc lo (.int x :: .ref 4 :: st) := g_putN (f := 3) (ty0 := tyX2) ho isF_4 rfl in_X2 tyX2_ok nmX2 (by decide) fn_X5_126 rfl rfl rfl (fun _ => rfl) (fun _ _ _ => Nat.le_of_ble_eq_true rfl) sI_off (fun _ => rfl) d kk
theorem fn_X5_123 : Cond.fieldLinkNest RX5 123 (TX0 1).1 (TX0 1).2.1 (TX0 1).2.2.1 "HoleMask" ∈ nw := nw_i 184 (by decide +kernel) rfl
theorem gf_X5_123 (ho : M.1.cls = RX5) (d : decode M.2.1 pc = .ok (.getfield 123, 3)) (kk : G M rm R μ (pc + 3) lo (.int (μ.1 5 1) :: st)) : G M rm R μ pc lo (.ref 5 :: st) := g_getN (f := 1) ho isF_5 rfl in_X0 (by decide) fn_X5_123 (fun _ => rfl) d kk
theorem gp_X5_123 {x : Int32} (ho : M.1.cls = RX5) (d : decode M.2.1 pc = .ok (.putfield 123, 3)) (kk : G M rm R (sI μ 5 1 x) (pc + 3) lo st) : G M rm R μ pc lo (.int x :: .ref 5 :: st) := g_putN (f := 1) (ty0 := tyX0) ho isF_5 rfl in_X0 tyX0_ok nmX0 (by decide) fn_X5_123 rfl rfl rfl (fun _ => rfl) (fun _ _ _ => Nat.le_of_ble_eq_true rfl) sI_off (fun _ => rfl) d kk
end
end
section
/-! the static row LIMITS, System.arraycopy, Math -/
theorem tz_24 : Cond.fieldLink RX1 24 "HoleMask$Circle" "LIMITS" "[I" ∈ tw := tw_i 266 (by decide +kernel) (by decide +kernel)
theorem tz_349 : Cond.methodLink RX1 50 arraycopyName ∈ tw := tw_i 349 (by decide +kernel) (by decide +kernel)
theorem tz_350 : Cond.static arraycopyName ∈ tw := tw_i 350 (by decide +kernel) (by decide +kernel)
theorem tz_351 : Cond.native arraycopyName ∈ tw := tw_i 351 (by decide +kernel) (by decide +kernel)
theorem tz_79 : Cond.initialized "java/lang/System" ∈ tw := tw_i 79 (by decide +kernel) (by decide +kernel)
theorem tz_78 : Cond.initialized "java/lang/Math" ∈ tw := tw_i 78 (by decide +kernel) (by decide +kernel)
theorem tz_371 : Cond.methodLink RX5 245 Lib.MathLoose.abs_long.x ∈ tw := tw_i 371 (by decide +kernel) (by decide +kernel)
theorem tz_372 : Cond.static Lib.MathLoose.abs_long.x ∈ tw := tw_i 372 (by decide +kernel) (by decide +kernel)
theorem tz_373 : Cond.code Lib.MathLoose.abs_long.x Lib.MathLoose.abs_long.code 2 (some .long) ∈ tw := tw_i 373 (by decide +kernel) (by decide +kernel)
theorem tz_426 : Cond.methodLink RX4 37 Lib.Math.min.name ∈ tw := tw_i 426 (by decide +kernel) (by decide +kernel)
theorem tz_427 : Cond.static Lib.Math.min.name ∈ tw := tw_i 427 (by decide +kernel) (by decide +kernel)
theorem tz_428 : Cond.code Lib.Math.min.name Lib.Math.min.code 2 (some .int) ∈ tw := tw_i 428 (by decide +kernel) (by decide +kernel)
theorem tz_520 : Cond.methodLink RX2 60 Lib.Math.abs.name ∈ tw := tw_i 520 (by decide +kernel) (by decide +kernel)
theorem tz_521 : Cond.static Lib.Math.abs.name ∈ tw := tw_i 521 (by decide +kernel) (by decide +kernel)
theorem tz_522 : Cond.code Lib.Math.abs.name Lib.Math.abs.code 1 (some .int) ∈ tw := tw_i 522 (by decide +kernel) (by decide +kernel)
theorem tz_523 : Cond.methodLink RX2 66 Lib.Math.max.name ∈ tw := tw_i 523 (by decide +kernel) (by decide +kernel)
theorem tz_524 : Cond.static Lib.Math.max.name ∈ tw := tw_i 524 (by decide +kernel) (by decide +kernel)
theorem tz_525 : Cond.code Lib.Math.max.name Lib.Math.max.code 2 (some .int) ∈ tw := tw_i 525 (by decide +kernel) (by decide +kernel)
theorem tz_526 : Cond.methodLink RX2 69 Lib.Math.min.name ∈ tw := tw_i 526 (by decide +kernel) (by decide +kernel)
theorem tz_612 : Cond.methodLink RX5 222 Lib.Math.min.name ∈ tw := tw_i 612 (by decide +kernel) (by decide +kernel)
def sR (μ : Mm) (k : Nat) (f : Nat → Int32) : Mm := (fun k' => if k' = k then f else μ.1 k', μ.2)
theorem sR_off {μ : Mm} {k : Nat} {f : Nat → Int32} : ∀ k', k' ≠ k → (sR μ k f).1 k' = μ.1 k' ∧ (sR μ k f).2 k' = μ.2 k' := fun k' h => ⟨by simp [sR, h], rfl⟩
theorem sR_at {μ : Mm} {k : Nat} {f : Nat → Int32} : (sR μ k f).1 k = f := by simp [sR]
section
variable {M : Mb} {rm : Room} {R : Option Value × Mm} {μ : Mm} {pc : Nat} {lo : List (Option Value)} {st : List Value}
theorem g_limits (ho : M.1.cls = RX1) (d : decode M.2.1 pc = .ok (.getstatic 24, 3)) (kk : G M rm R μ (pc + 3) lo (.ref 47 :: st)) : G M rm R μ pc lo st := by
  intro γ p l e s m args below meth c C H locs ls hw hl
  have h1 := C.2.2.2.2.1
  rw [ho] at h1
  exact va_gets C.1 C.2.1 C.2.2.2.2.2.2.2.2.2.1 hw.2 h1 (C.2.2.2.2.2.1 _ tz_24) (fun _ h => h) d (kk γ p l e s m args below meth c C H locs ls hw hl)
theorem g_limload {j : Nat} {i : Int32} (hi : i = nI j) (hj : j < 3) (d : decode M.2.1 pc = .ok (.iaload, 1)) (kk : G M rm R μ (pc + 1) lo (.int (limF j) :: st)) : G M rm R μ pc lo (.int i :: .ref 47 :: st) := by
  subst hi
  intro γ p l e s m args below meth c C H locs ls hw hl
  have h := kk γ p l e s m args below meth c C H locs ls hw hl
  exact va_ti C.1 C.2.1 C.2.2.2.2.2.2.2.2.2.2 hw.2 (vp_in_nI hj (by omega)) (v := .int (limF j)) (by rw [nI_clamp (by omega)]) d h
theorem g_copy {k0 k1 n0 n1 n : Nat} {z0 z1 x : Int32} (h0 : isI k0 n0) (h1 : isI k1 n1) (hz0 : z0 = nI 0) (hz1 : z1 = nI 0) (hx : x = nI n) (e0 : n ≤ n0) (e1 : n ≤ n1) (b0 : n0 ≤ 1024) (hf : 1 ≤ rm.frames) (hc : (st.map fun v => v.category).sum + (nativeFrameWords "java/lang/System" "arraycopy" 5 + 11) ≤ rm.locals) (ho : M.1.cls = RX1) (d : decode M.2.1 pc = .ok (.invokestatic 50, 3)) (kk : G M rm R (sR μ k1 (va_cpy (μ.1 k0) (μ.1 k1) 0 0 n)) (pc + 3) lo st) : G M rm R μ pc lo (.int x :: .int z1 :: .ref k1 :: .int z0 :: .ref k0 :: st) := by
  subst hz0; subst hz1; subst hx
  intro γ p l e s m args below meth c C H locs ls hw hl
  have ho1 := C.2.2.2.2.1
  rw [ho] at ho1
  have e2 : (nI n).toNatClampNeg = n := nI_clamp (by omega)
  have e3 : (nI 0).toNatClampNeg = 0 := nI_clamp (by omega)
  refine va_copyi (D := γ.2.1) C.1 C.2.1 (C.2.2.2.1.trans hl.1.symm) ho1 (C.2.2.2.2.2.1 _ tz_349) (C.2.2.2.2.2.1 _ tz_351) (C.2.2.2.2.2.1 _ tz_350) (C.2.2.2.2.2.1 _ tz_79) C.2.2.2.2.2.2.2.1.1 hw.1 (wd_D C.2.2.2.2.2.2.2.2.1) hw.2 k0 k1 0 0 (by rw [wd_get h0.1, h0.2]) (by rw [wd_get h1.1, h1.2]) rfl rfl rfl (nI_pos (n := 0) (by omega)) (nI_pos (n := 0) (by omega)) (nI_pos (n := n) (by omega)) (by rw [e2, e3]; omega) (by rw [e2, e3]; omega) (fun i hi => rfl) hf (by rw [rv_cats]; exact hc) d (fun H1 locs1 hP _ hS => ?_)
  rw [e2, e3, wd_set (μ' := sR μ k1 (va_cpy (μ.1 k0) (μ.1 k1) 0 0 n)) sR_off (by rw [h1.2, sR_at])] at hP
  exact kk γ p l e s m args below meth c C H1 locs1 ls ⟨hP, hS⟩ hl
theorem g_mmin {x y : Int32} {own : String} {index : Nat} (ho : M.1.cls = own) (hlk : Cond.methodLink own index Lib.Math.min.name ∈ tw) (hf : 1 ≤ rm.frames) (hc : (st.map fun v => v.category).sum + 13 ≤ rm.locals) (d : decode M.2.1 pc = .ok (.invokestatic index, 3)) (kk : G M rm R μ (pc + 3) lo (.int (if y < x then y else x) :: st)) : G M rm R μ pc lo (.int y :: .int x :: st) := by
  subst ho
  intro γ p l e s m args below meth c C H locs ls hw hl
  exact va_mmin C.1 C.2.1 (C.2.2.2.1.trans hl.1.symm) C.2.2.2.2.1 (C.2.2.2.2.2.1 _ hlk) (C.2.2.2.2.2.1 _ tz_427) (C.2.2.2.2.2.1 _ tz_78) (C.2.2.2.2.2.1 _ tz_428) hf (by rw [rv_cats]; exact hc) (Nat.zero_le _) (Nat.zero_le _) d (kk γ p l e s m args below meth c C H locs ls hw hl)
theorem g_mmax {x y : Int32} {own : String} {index : Nat} (ho : M.1.cls = own) (hlk : Cond.methodLink own index Lib.Math.max.name ∈ tw) (hf : 1 ≤ rm.frames) (hc : (st.map fun v => v.category).sum + 13 ≤ rm.locals) (d : decode M.2.1 pc = .ok (.invokestatic index, 3)) (kk : G M rm R μ (pc + 3) lo (.int (if x < y then y else x) :: st)) : G M rm R μ pc lo (.int y :: .int x :: st) := by
  subst ho
  intro γ p l e s m args below meth c C H locs ls hw hl
  exact va_mmax C.1 C.2.1 (C.2.2.2.1.trans hl.1.symm) C.2.2.2.2.1 (C.2.2.2.2.2.1 _ hlk) (C.2.2.2.2.2.1 _ tz_524) (C.2.2.2.2.2.1 _ tz_78) (C.2.2.2.2.2.1 _ tz_525) hf (by rw [rv_cats]; exact hc) (Nat.zero_le _) (Nat.zero_le _) d (kk γ p l e s m args below meth c C H locs ls hw hl)
theorem g_mabs {x : Int32} {own : String} {index : Nat} (ho : M.1.cls = own) (hlk : Cond.methodLink own index Lib.Math.abs.name ∈ tw) (hf : 1 ≤ rm.frames) (hc : (st.map fun v => v.category).sum + 13 ≤ rm.locals) (d : decode M.2.1 pc = .ok (.invokestatic index, 3)) (kk : G M rm R μ (pc + 3) lo (.int (if 0 ≤ x then x else 0 - x) :: st)) : G M rm R μ pc lo (.int x :: st) := by
  subst ho
  intro γ p l e s m args below meth c C H locs ls hw hl
  exact va_mabs C.1 C.2.1 (C.2.2.2.1.trans hl.1.symm) C.2.2.2.2.1 (C.2.2.2.2.2.1 _ hlk) (C.2.2.2.2.2.1 _ tz_521) (C.2.2.2.2.2.1 _ tz_78) (C.2.2.2.2.2.1 _ tz_522) hf (by rw [rv_cats]; exact hc) (Nat.zero_le _) (Nat.zero_le _) d (kk γ p l e s m args below meth c C H locs ls hw hl)
theorem g_mabsL {x : Int64} {own : String} {index : Nat} (ho : M.1.cls = own) (hlk : Cond.methodLink own index Lib.MathLoose.abs_long.x ∈ tw) (hf : 1 ≤ rm.frames) (hc : (st.map fun v => v.category).sum + 13 ≤ rm.locals) (d : decode M.2.1 pc = .ok (.invokestatic index, 3)) (kk : G M rm R μ (pc + 3) lo (.long (if 0 < x then x else -x) :: st)) : G M rm R μ pc lo (.long x :: st) := by
  subst ho
  intro γ p l e s m args below meth c C H locs ls hw hl
  exact va_mabs_long C.1 C.2.1 (C.2.2.2.1.trans hl.1.symm) C.2.2.2.2.1 (C.2.2.2.2.2.1 _ hlk) (C.2.2.2.2.2.1 _ tz_372) (C.2.2.2.2.2.1 _ tz_78) (C.2.2.2.2.2.1 _ tz_373) hf (by rw [rv_cats]; exact hc) (Nat.zero_le _) (Nat.zero_le _) d (kk γ p l e s m args below meth c C H locs ls hw hl)
theorem g_tableIn {dflt lo9 hi : Int} {offs : Array Int} {len : Nat} {x : Int32} {off : Int} (tgt : Nat) (d : decode M.2.1 pc = .ok (.tableswitch dflt lo9 hi offs, len)) (h1 : ¬ x.toInt < lo9) (h2 : ¬ hi < x.toInt) (ho : offs[(x.toInt - lo9).toNat]? = some off) (ht : (pc : Int) + off = (tgt : Int)) (kk : G M rm R μ tgt lo st) : G M rm R μ pc lo (.int x :: st) :=
  fun γ p l e s m args below meth c C H locs ls hw hl => lv_tableIn C.1 C.2.1 d h1 h2 ho ht (kk γ p l e s m args below meth c C H locs ls hw hl)
theorem g_tableOut {dflt lo9 hi : Int} {offs : Array Int} {len : Nat} {x : Int32} (tgt : Nat) (d : decode M.2.1 pc = .ok (.tableswitch dflt lo9 hi offs, len)) (h : x.toInt < lo9 ∨ hi < x.toInt) (ht : (pc : Int) + dflt = (tgt : Int)) (kk : G M rm R μ tgt lo st) : G M rm R μ pc lo (.int x :: st) :=
  fun γ p l e s m args below meth c C H locs ls hw hl => lv_tableOut C.1 C.2.1 d h ht (kk γ p l e s m args below meth c C H locs ls hw hl)
/-- the same number by another name -/
theorem g_top {v w : Value} (h : v = w) (kk : G M rm R μ pc lo (w :: st)) : G M rm R μ pc lo (v :: st) := h ▸ kk
theorem g_at (pc' : Nat) (h : pc = pc') (kk : G M rm R μ pc' lo st) : G M rm R μ pc lo st := h ▸ kk
theorem g_mem {μ' : Mm} (h : μ = μ') (kk : G M rm R μ' pc lo st) : G M rm R μ pc lo st := h ▸ kk
end
theorem Ok.to {M : Mb} {rm : Room} {as : List Value} {μ : Mm} {R R' : Option Value × Mm} (h : Ok M rm as μ R) (e : R = R') : Ok M rm as μ R' := e ▸ h
set_option maxHeartbeats 4000000 in
theorem Ok.ofF {M : Mb} {rm : Room} {as : List Value} {μ : Mm} {R : Option Value × Mm} (hy : plainFor M.1 = true) (hn : (lo1 as).length ≤ M.2.2.1) (lo : List (Option Value)) (hlo : lo1 as ++ List.replicate (M.2.2.1 - (lo1 as).length) none = lo) (h : G M rm R μ 0 lo []) : Ok M rm as μ R := by
  intro γ l sz
  refine va_MetF (cc := M.2.1) (maxL := M.2.2.1) (ret := M.2.2.2) hy rfl ?_
  intro p e s m args below meth c s₁ B hml hv
  obtain ⟨rfl, hsz, hP, hK, hI, hZ⟩ := hv
  subst hsz
  have hts := atoms_spec (ws := wsM M) B.pre
  have hl := lv_entry (as.map (rv γ.1)) (n := M.2.2.1) (by rw [lo1_len]; exact hn)
  rw [lg_entry_eq]
  refine h γ p l e s m _ below meth c ⟨B.exec, B.bytes, B.returns, hml, findClass_of_methodNamed B.named, fun w hw => hts w (List.mem_cons_of_mem _ hw), B.notSynchronized, hK, hI, hZ⟩ s.heap [] _ ⟨hP, va_S.rf⟩ ⟨hl.1, hl.2.1, ?_, ?_⟩
  · rw [← hlo]; simp
    try omega
  · intro i v hi
    rw [← hlo] at hi
    have hi2 : (lo1 as)[i]? = some (some v) := by
      by_cases hlt : i < (lo1 as).length
      · rw [List.getElem?_append_left hlt] at hi; exact hi
      · rw [List.getElem?_append_right (by omega)] at hi
        rw [List.getElem?_replicate] at hi
        split at hi <;> cases hi
    have := lo1_args γ.1 as 0 i v hi2
    rw [Nat.zero_add] at this
    exact hl.2.2 _ this
end
section
/-! the rules for numbers that are nI of a natural number, and for booleans -/
def bI (c : Prop) [Decidable c] : Int32 := if c then 1 else 0
theorem bI_t {c : Prop} [Decidable c] (h : c) : bI c = 1 := if_pos h
theorem bI_f {c : Prop} [Decidable c] (h : ¬ c) : bI c = 0 := if_neg h
theorem bI_nar {c : Prop} [Decidable c] : narrow .boolean (.int (bI c)) = .int (bI c) := by
  unfold bI; split <;> rfl
theorem bI_fit {c : Prop} [Decidable c] : fits .boolean (.int (bI c)) = true := by
  unfold bI; split <;> rfl
theorem bI_iff {c d : Prop} [Decidable c] [Decidable d] (h : c ↔ d) : bI c = bI d := by
  unfold bI; by_cases hc : c
  · rw [if_pos hc, if_pos (h.mp hc)]
  · rw [if_neg hc, if_neg (fun q => hc (h.mpr q))]
section
variable {M : Mb} {rm : Room} {R : Option Value × Mm} {μ : Mm} {pc : Nat} {lo : List (Option Value)} {st : List Value}
theorem g_iaddN {a b : Nat} (d : decode M.2.1 pc = .ok (.iadd, 1)) (k : G M rm R μ (pc + 1) lo (.int (nI (a + b)) :: st)) : G M rm R μ pc lo (.int (nI b) :: .int (nI a) :: st) := g_iadd d (by rw [nI_add]; exact k)
theorem g_isubN {a b : Nat} (h : b ≤ a) (d : decode M.2.1 pc = .ok (.isub, 1)) (k : G M rm R μ (pc + 1) lo (.int (nI (a - b)) :: st)) : G M rm R μ pc lo (.int (nI b) :: .int (nI a) :: st) := g_isub d (by rw [pk_sub h]; exact k)
theorem g_imulN {a b : Nat} (d : decode M.2.1 pc = .ok (.imul, 1)) (k : G M rm R μ (pc + 1) lo (.int (nI (a * b)) :: st)) : G M rm R μ pc lo (.int (nI b) :: .int (nI a) :: st) := g_imul d (by rw [pk_mul]; exact k)
theorem g_iremN {a b : Nat} (ha : a < 2 ^ 31) (h0 : 0 < b) (hb : b < 2 ^ 31) (d : decode M.2.1 pc = .ok (.irem, 1)) (k : G M rm R μ (pc + 1) lo (.int (nI (a % b)) :: st)) : G M rm R μ pc lo (.int (nI b) :: .int (nI a) :: st) := g_irem d (nI_ne0 h0 hb) (by rw [pk_rem ha h0 hb]; exact k)
theorem g_iincN {i a : Nat} (lo' : List (Option Value)) (d : decode M.2.1 pc = .ok (.iinc i 1, 3)) (h0 : lo[i]? = some (some (.int (nI a)))) (hn : i < M.2.2.1) (ho : okS lo i = true) (h : lo.set i (some (.int (nI (a + 1)))) = lo') (k : G M rm R μ (pc + 3) lo' st) : G M rm R μ pc lo st := g_iinc lo' d h0 (nI_1 a) hn ho h k
theorem g_icmp_eqN {a b : Nat} {off : Int} (tgt : Nat) (ha : a < 2 ^ 31) (hb : b < 2 ^ 31) (d : decode M.2.1 pc = .ok (.if_icmp .eq off, 3)) (ht : (pc : Int) + off = (tgt : Int)) (kt : a = b → G M rm R μ tgt lo st) (kf : a ≠ b → G M rm R μ (pc + 3) lo st) : G M rm R μ pc lo (.int (nI b) :: .int (nI a) :: st) := g_icmp_eq tgt d ht (fun h => kt ((nI_eq ha hb).mp h)) (fun h => kf (fun q => h ((nI_eq ha hb).mpr q)))
theorem g_icmp_neN {a b : Nat} {off : Int} (tgt : Nat) (ha : a < 2 ^ 31) (hb : b < 2 ^ 31) (d : decode M.2.1 pc = .ok (.if_icmp .ne off, 3)) (ht : (pc : Int) + off = (tgt : Int)) (kt : a ≠ b → G M rm R μ tgt lo st) (kf : a = b → G M rm R μ (pc + 3) lo st) : G M rm R μ pc lo (.int (nI b) :: .int (nI a) :: st) := g_icmp_ne tgt d ht (fun h => kt (fun q => h ((nI_eq ha hb).mpr q))) (fun h => kf ((nI_eq ha hb).mp h))
theorem g_icmp_ltN {a b : Nat} {off : Int} (tgt : Nat) (ha : a < 2 ^ 31) (hb : b < 2 ^ 31) (d : decode M.2.1 pc = .ok (.if_icmp .lt off, 3)) (ht : (pc : Int) + off = (tgt : Int)) (kt : a < b → G M rm R μ tgt lo st) (kf : b ≤ a → G M rm R μ (pc + 3) lo st) : G M rm R μ pc lo (.int (nI b) :: .int (nI a) :: st) := g_icmp_lt tgt d ht (fun h => kt ((nI_ltI ha hb).mp h)) (fun h => kf (Nat.not_lt.mp (fun q => h ((nI_ltI ha hb).mpr q))))
theorem g_icmp_geN {a b : Nat} {off : Int} (tgt : Nat) (ha : a < 2 ^ 31) (hb : b < 2 ^ 31) (d : decode M.2.1 pc = .ok (.if_icmp .ge off, 3)) (ht : (pc : Int) + off = (tgt : Int)) (kt : b ≤ a → G M rm R μ tgt lo st) (kf : a < b → G M rm R μ (pc + 3) lo st) : G M rm R μ pc lo (.int (nI b) :: .int (nI a) :: st) := g_icmp_ge tgt d ht (fun h => kt ((nI_leI hb ha).mp h)) (fun h => kf (Nat.not_le.mp (fun q => h ((nI_leI hb ha).mpr q))))
theorem g_icmp_gtN {a b : Nat} {off : Int} (tgt : Nat) (ha : a < 2 ^ 31) (hb : b < 2 ^ 31) (d : decode M.2.1 pc = .ok (.if_icmp .gt off, 3)) (ht : (pc : Int) + off = (tgt : Int)) (kt : b < a → G M rm R μ tgt lo st) (kf : a ≤ b → G M rm R μ (pc + 3) lo st) : G M rm R μ pc lo (.int (nI b) :: .int (nI a) :: st) := g_icmp_gt tgt d ht (fun h => kt ((nI_ltI hb ha).mp h)) (fun h => kf (Nat.not_lt.mp (fun q => h ((nI_ltI hb ha).mpr q))))
theorem g_icmp_leN {a b : Nat} {off : Int} (tgt : Nat) (ha : a < 2 ^ 31) (hb : b < 2 ^ 31) (d : decode M.2.1 pc = .ok (.if_icmp .le off, 3)) (ht : (pc : Int) + off = (tgt : Int)) (kt : a ≤ b → G M rm R μ tgt lo st) (kf : b < a → G M rm R μ (pc + 3) lo st) : G M rm R μ pc lo (.int (nI b) :: .int (nI a) :: st) := g_icmp_le tgt d ht (fun h => kt ((nI_leI ha hb).mp h)) (fun h => kf (Nat.not_le.mp (fun q => h ((nI_leI ha hb).mpr q))))
theorem g_if_eqN {a : Nat} {off : Int} (tgt : Nat) (ha : a < 2 ^ 31) (d : decode M.2.1 pc = .ok (.ifCond .eq off, 3)) (ht : (pc : Int) + off = (tgt : Int)) (kt : a = 0 → G M rm R μ tgt lo st) (kf : 0 < a → G M rm R μ (pc + 3) lo st) : G M rm R μ pc lo (.int (nI a) :: st) := g_if_eq tgt d ht (fun h => kt ((nI_eq (b := 0) ha (by decide)).mp h)) (fun h => kf (Nat.pos_of_ne_zero (fun q => h ((nI_eq (b := 0) ha (by decide)).mpr q))))
theorem g_if_neN {a : Nat} {off : Int} (tgt : Nat) (ha : a < 2 ^ 31) (d : decode M.2.1 pc = .ok (.ifCond .ne off, 3)) (ht : (pc : Int) + off = (tgt : Int)) (kt : 0 < a → G M rm R μ tgt lo st) (kf : a = 0 → G M rm R μ (pc + 3) lo st) : G M rm R μ pc lo (.int (nI a) :: st) := g_if_ne tgt d ht (fun h => kt (Nat.pos_of_ne_zero (fun q => h ((nI_eq (b := 0) ha (by decide)).mpr q)))) (fun h => kf ((nI_eq (b := 0) ha (by decide)).mp h))
theorem g_if_gtN {a : Nat} {off : Int} (tgt : Nat) (ha : a < 2 ^ 31) (d : decode M.2.1 pc = .ok (.ifCond .gt off, 3)) (ht : (pc : Int) + off = (tgt : Int)) (kt : 0 < a → G M rm R μ tgt lo st) (kf : a = 0 → G M rm R μ (pc + 3) lo st) : G M rm R μ pc lo (.int (nI a) :: st) := g_if_gt tgt d ht (fun h => kt ((nI_ltI (b := a) (a := 0) (by omega) ha).mp h)) (fun h => kf (Nat.eq_zero_of_not_pos (fun q => h ((nI_ltI (b := a) (a := 0) (by omega) ha).mpr q))))
theorem g_if_leN {a : Nat} {off : Int} (tgt : Nat) (ha : a < 2 ^ 31) (d : decode M.2.1 pc = .ok (.ifCond .le off, 3)) (ht : (pc : Int) + off = (tgt : Int)) (kt : a = 0 → G M rm R μ tgt lo st) (kf : 0 < a → G M rm R μ (pc + 3) lo st) : G M rm R μ pc lo (.int (nI a) :: st) := g_if_le tgt d ht (fun h => kt (Nat.le_zero.mp ((nI_leI (b := 0) ha (by omega)).mp h))) (fun h => kf (Nat.pos_of_ne_zero (fun q => h ((nI_leI (b := 0) ha (by omega)).mpr (Nat.le_of_eq q)))))
theorem g_if_ltN {a : Nat} {off : Int} (tgt : Nat) (ha : a < 2 ^ 31) (d : decode M.2.1 pc = .ok (.ifCond .lt off, 3)) (ht : (pc : Int) + off = (tgt : Int)) (kf : G M rm R μ (pc + 3) lo st) : G M rm R μ pc lo (.int (nI a) :: st) := g_if_lt tgt d ht (fun h => absurd h (nI_pos ha)) (fun _ => kf)
theorem g_if_geN {a : Nat} {off : Int} (tgt : Nat) (ha : a < 2 ^ 31) (d : decode M.2.1 pc = .ok (.ifCond .ge off, 3)) (ht : (pc : Int) + off = (tgt : Int)) (kt : G M rm R μ tgt lo st) : G M rm R μ pc lo (.int (nI a) :: st) := g_if_ge tgt d ht (fun _ => kt) (fun h => absurd (nI_pos' ha) h)
theorem g_if_eqB {c : Prop} [Decidable c] {off : Int} (tgt : Nat) (d : decode M.2.1 pc = .ok (.ifCond .eq off, 3)) (ht : (pc : Int) + off = (tgt : Int)) (kt : ¬ c → G M rm R μ tgt lo st) (kf : c → G M rm R μ (pc + 3) lo st) : G M rm R μ pc lo (.int (bI c) :: st) := by
  refine g_if_eq tgt d ht (fun h => ?_) (fun h => ?_)
  · exact kt (fun q => by rw [bI_t q] at h; exact absurd h (by decide))
  · by_cases q : c
    · exact kf q
    · exact absurd (bI_f q) h
theorem g_if_neB {c : Prop} [Decidable c] {off : Int} (tgt : Nat) (d : decode M.2.1 pc = .ok (.ifCond .ne off, 3)) (ht : (pc : Int) + off = (tgt : Int)) (kt : c → G M rm R μ tgt lo st) (kf : ¬ c → G M rm R μ (pc + 3) lo st) : G M rm R μ pc lo (.int (bI c) :: st) := by
  refine g_if_ne tgt d ht (fun h => ?_) (fun h => ?_)
  · by_cases q : c
    · exact kt q
    · exact absurd (bI_f q) h
  · exact kf (fun q => by rw [bI_t q] at h; exact absurd h (by decide))
end
end
section
/-! plain facts on numbers and arrays, to paste: each family by itself; over the kit's rows on nI and upd -/
/-! ===== order of ints, in all its forms, and through longs ===== -/
theorem fa_lt (a b : Int32) : a < b ↔ a.toInt < b.toInt := Int32.lt_iff_toInt_lt
theorem fa_le (a b : Int32) : a ≤ b ↔ a.toInt ≤ b.toInt := Int32.le_iff_toInt_le
theorem fa_eq (a b : Int32) : a = b ↔ a.toInt = b.toInt := Int32.toInt_inj.symm
theorem fa_lt64 (a b : Int64) : a < b ↔ a.toInt < b.toInt := Int64.lt_iff_toInt_lt
theorem fa_le64 (a b : Int64) : a ≤ b ↔ a.toInt ≤ b.toInt := Int64.le_iff_toInt_le
theorem fa_eq64 (a b : Int64) : a = b ↔ a.toInt = b.toInt := Int64.toInt_inj.symm
/-- a comparison of two ints taken as longs -/
theorem fa_wide_lt (a b : Int32) : a.toInt64 < b.toInt64 ↔ a < b := by rw [fa_lt64, fa_lt, Int32.toInt_toInt64, Int32.toInt_toInt64]
theorem fa_wide_le (a b : Int32) : a.toInt64 ≤ b.toInt64 ↔ a ≤ b := by rw [fa_le64, fa_le, Int32.toInt_toInt64, Int32.toInt_toInt64]
theorem fa_wide_eq (a b : Int32) : a.toInt64 = b.toInt64 ↔ a = b := by rw [fa_eq64, fa_eq, Int32.toInt_toInt64, Int32.toInt_toInt64]
/-- one strict comparison gives all the others -/
theorem fa_of_lt {a b : Int32} (h : a < b) : a ≤ b ∧ ¬ b ≤ a ∧ ¬ b < a ∧ a ≠ b ∧ b ≠ a := by
  rw [fa_lt] at h
  refine ⟨?_, ?_, ?_, ?_, ?_⟩
  · rw [fa_le]; omega
  · rw [fa_le]; omega
  · rw [fa_lt]; omega
  · intro e; rw [fa_eq] at e; omega
  · intro e; rw [fa_eq] at e; omega
theorem fa_of_nlt {a b : Int32} (h : ¬ a < b) : b ≤ a := by
  rw [fa_lt] at h
  rw [fa_le]
  omega
theorem fa_of_nle {a b : Int32} (h : ¬ a ≤ b) : b < a := by
  rw [fa_le] at h
  rw [fa_lt]
  omega
theorem fa_le_ne {a b : Int32} (h : a ≤ b) (h2 : a ≠ b) : a < b := by
  rw [fa_le] at h
  rw [fa_lt]
  have h3 : a.toInt ≠ b.toInt := fun e => h2 ((fa_eq a b).mpr e)
  omega
theorem fa_three (a b : Int32) : a < b ∨ a = b ∨ b < a := by
  rw [fa_lt, fa_lt, fa_eq]
  omega
theorem fa_trans {a b c : Int32} (h : a < b) (h2 : b ≤ c) : a < c := by
  rw [fa_lt] at *
  rw [fa_le] at h2
  omega
/-! ===== small literals as numbers ===== -/
theorem fa_lit (n : Nat) : (OfNat.ofNat n : Int32) = nI n := rfl
theorem fa_litL (n : Nat) : (OfNat.ofNat n : Int64) = lN n := rfl
/-! ===== bits of a number: 'or', masks, one bit ===== -/
theorem fa_and (a b : Nat) : nI a &&& nI b = nI (a &&& b) := by
  apply Int32.toBitVec_inj.1
  show BitVec.ofNat 32 a &&& BitVec.ofNat 32 b = BitVec.ofNat 32 (a &&& b)
  apply BitVec.eq_of_getLsbD_eq
  intro i hi
  simp [hi]
theorem fa_or (a b : Nat) : nI a ||| nI b = nI (a ||| b) := by
  apply Int32.toBitVec_inj.1
  show BitVec.ofNat 32 a ||| BitVec.ofNat 32 b = BitVec.ofNat 32 (a ||| b)
  apply BitVec.eq_of_getLsbD_eq
  intro i hi
  simp [hi]
/-- a remainder by a power of two, as a mask -/
theorem fa_mask (n k : Nat) : nI n &&& nI (2 ^ k - 1) = nI (n % 2 ^ k) := by rw [fa_and, Nat.and_two_pow_sub_one_eq_mod]
/-- 'or' of a high part and a low one that don't meet is their sum -/
theorem fa_or_sum {a k : Nat} (b : Nat) (h : a < 2 ^ k) : nI (2 ^ k * b) ||| nI a = nI (2 ^ k * b + a) := by rw [fa_or, Nat.two_pow_add_eq_or_of_lt h]
/-- one bit, by 'and' with a power of two -/
theorem fa_bit {n j : Nat} (hj : j < 31) : nI n &&& nI (2 ^ j) = 0 ↔ n.testBit j = false := by
  have h2 : (2 : Nat) ^ j < 2 ^ 31 := Nat.pow_lt_pow_right (by decide) hj
  have hle : n &&& 2 ^ j ≤ 2 ^ j := Nat.and_le_right
  have e : n &&& 2 ^ j = 0 ↔ n.testBit j = false := by
    constructor
    · intro h
      have h1 : (n &&& 2 ^ j).testBit j = false := by rw [h]; simp
      rw [Nat.testBit_and] at h1
      first | simpa using h1 | simpa [Nat.testBit_two_pow_self] using h1 | simpa [Nat.testBit_two_pow] using h1
    · intro h
      apply Nat.eq_of_testBit_eq
      intro i
      rw [Nat.testBit_and]
      by_cases hi : j = i
      · subst hi; simp [h]
      · first | (simp [Nat.testBit_two_pow, hi]; done) | (simp [Nat.testBit_two_pow_of_ne hi]; done)
  rw [fa_and]
  constructor
  · intro h
    apply e.mp
    rcases Nat.eq_zero_or_pos (n &&& 2 ^ j) with z | z
    · exact z
    · exact absurd h (nI_ne0 z (Nat.lt_of_le_of_lt hle h2))
  · intro h
    rw [e.mpr h]; exact nI_0
/-- a remainder by a power of two of a number that isn't negative, as Java divides -/
theorem fa_rem {a k : Nat} (ha : a < 2 ^ 31) (hk : k < 31) : nI a - nI a / nI (2 ^ k) * nI (2 ^ k) = nI (a % 2 ^ k) := pk_rem ha (Nat.two_pow_pos k) (Nat.pow_lt_pow_right (by decide) hk)
/-! ===== cuts to a byte, a short ===== -/
theorem fa_byte_xor (x y : Int32) : (x ^^^ y).toInt8 = x.toInt8 ^^^ y.toInt8 := by
  apply Int8.toBitVec_inj.1
  apply BitVec.eq_of_getLsbD_eq
  intro i hi
  first | (simp [hi]; done) | (simp [hi, BitVec.getLsbD_setWidth, BitVec.getLsbD_signExtend]; done)
theorem fa_short_xor (x y : Int32) : (x ^^^ y).toInt16 = x.toInt16 ^^^ y.toInt16 := by
  apply Int16.toBitVec_inj.1
  apply BitVec.eq_of_getLsbD_eq
  intro i hi
  first | (simp [hi]; done) | (simp [hi, BitVec.getLsbD_setWidth, BitVec.getLsbD_signExtend]; done)
/-- the cut to a byte sees the low byte alone -/
theorem fa_byte_low (x : Int32) : (x &&& 255).toInt8 = x.toInt8 := by
  apply Int8.toBitVec_inj.1
  apply BitVec.eq_of_getLsbD_eq
  intro i hi
  have h2 : (255 : Int32).toBitVec.getLsbD i = true := by
    have : ∀ j : Fin 8, (255 : Int32).toBitVec.getLsbD j.val = true := by decide +kernel
    exact this ⟨i, hi⟩
  have h4 : (x &&& 255).toBitVec.getLsbD i = x.toBitVec.getLsbD i := by
    show (x.toBitVec &&& (255 : Int32).toBitVec).getLsbD i = _
    rw [BitVec.getLsbD_and, h2, Bool.and_true]
  have h3 : i < 32 := by omega
  first
    | (show (((x &&& 255).toBitVec).signExtend 8).getLsbD i = (x.toBitVec.signExtend 8).getLsbD i; rw [BitVec.getLsbD_signExtend, BitVec.getLsbD_signExtend, if_pos h3, if_pos h3, h4])
    | (show (((x &&& 255).toBitVec).setWidth 8).getLsbD i = (x.toBitVec.setWidth 8).getLsbD i; rw [BitVec.getLsbD_setWidth, BitVec.getLsbD_setWidth, h4])
    | (simp [hi, h3, h4]; done)
theorem fa_short_low (x : Int32) : (x &&& 65535).toInt16 = x.toInt16 := by
  apply Int16.toBitVec_inj.1
  apply BitVec.eq_of_getLsbD_eq
  intro i hi
  have h2 : (65535 : Int32).toBitVec.getLsbD i = true := by
    have : ∀ j : Fin 16, (65535 : Int32).toBitVec.getLsbD j.val = true := by decide +kernel
    exact this ⟨i, hi⟩
  have h4 : (x &&& 65535).toBitVec.getLsbD i = x.toBitVec.getLsbD i := by
    show (x.toBitVec &&& (65535 : Int32).toBitVec).getLsbD i = _
    rw [BitVec.getLsbD_and, h2, Bool.and_true]
  have h3 : i < 32 := by omega
  first
    | (show (((x &&& 65535).toBitVec).signExtend 16).getLsbD i = (x.toBitVec.signExtend 16).getLsbD i; rw [BitVec.getLsbD_signExtend, BitVec.getLsbD_signExtend, if_pos h3, if_pos h3, h4])
    | (show (((x &&& 65535).toBitVec).setWidth 16).getLsbD i = (x.toBitVec.setWidth 16).getLsbD i; rw [BitVec.getLsbD_setWidth, BitVec.getLsbD_setWidth, h4])
    | (simp [hi, h3, h4]; done)
/-- a small number is its own byte, its own short -/
theorem fa_byte_small {n : Nat} (h : n < 128) : (nI n).toInt8.toInt32 = nI n := by
  have : ∀ j : Fin 128, (nI j.val).toInt8.toInt32 = nI j.val := by decide +kernel
  exact this ⟨n, h⟩
/-! ===== absolute difference ===== -/
theorem fa_absdiff {a b : Nat} (ha : a < 2 ^ 31) (hb : b < 2 ^ 31) : (if nI a < nI b then nI b - nI a else nI a - nI b) = nI (if a < b then b - a else a - b) := by
  by_cases h : a < b
  · rw [if_pos (nI_lt h hb), if_pos h]
    exact pk_sub (Nat.le_of_lt h)
  · rw [if_neg (nI_nlt (Nat.le_of_not_lt h) ha), if_neg h]
    exact pk_sub (Nat.le_of_not_lt h)
/-! ===== an array behind i stores, a conditional store, a row copied ===== -/
/-- f where k < i, what stood there else -/
def fa_fill {α : Type} (f g : Nat → α) (i : Nat) : Nat → α := fun k => if k < i then f k else g k
theorem fa_fill_0 {α : Type} (f g : Nat → α) : fa_fill f g 0 = g := funext fun k => if_neg (Nat.not_lt_zero k)
theorem fa_fill_in {α : Type} {f g : Nat → α} {i k : Nat} (h : k < i) : fa_fill f g i k = f k := if_pos h
theorem fa_fill_out {α : Type} {f g : Nat → α} {i k : Nat} (h : i ≤ k) : fa_fill f g i k = g k := if_neg (Nat.not_lt.mpr h)
theorem fa_fill_succ (f g : Nat → Int32) (i : Nat) : upd (fa_fill f g i) i (f i) = fa_fill f g (i + 1) := by
  funext k
  by_cases e : k = i
  · subst e
    rw [pk_us]
    exact (if_pos (Nat.lt_succ_self k)).symm
  · rw [pk_un e]
    by_cases h : k < i
    · rw [fa_fill_in h, fa_fill_in (Nat.lt_succ_of_lt h)]
    · rw [fa_fill_out (Nat.le_of_not_lt h), fa_fill_out (by omega)]
/-- a store that changes nothing -/
theorem fa_upd_same {f : Nat → Int32} {i : Nat} {x : Int32} (h : f i = x) : upd f i x = f := by
  funext k
  by_cases e : k = i
  · subst e
    rw [pk_us, h]
  · rw [pk_un e]
/-- a store under a condition, told as one -/
theorem fa_upd_if (c : Prop) [Decidable c] (f : Nat → Int32) (i : Nat) (x : Int32) : (if c then upd f i x else f) = upd f i (if c then x else f i) := by
  by_cases h : c
  · rw [if_pos h, if_pos h]
  · rw [if_neg h, if_neg h, fa_upd_same rfl]
/-- two stores at one place, at two -/
theorem fa_upd_twice (f : Nat → Int32) (i : Nat) (x y : Int32) : upd (upd f i x) i y = upd f i y := by
  funext k
  by_cases e : k = i
  · subst e
    rw [pk_us, pk_us]
  · rw [pk_un e, pk_un e, pk_un e]
theorem fa_upd_swap (f : Nat → Int32) {i j : Nat} (h : i ≠ j) (x y : Int32) : upd (upd f i x) j y = upd (upd f j y) i x := by
  funext k
  by_cases e : k = i
  · subst e
    rw [pk_un h, pk_us, pk_us]
  · by_cases e2 : k = j
    · subst e2
      rw [pk_us, pk_un e, pk_us]
    · rw [pk_un e2, pk_un e, pk_un e, pk_un e2]
/-! ===== the first index with a property; a count ===== -/
/-- the first k < n with p k, n if there is none -/
def fa_first (p : Nat → Bool) : Nat → Nat
  | 0 => 0
  | n + 1 => if fa_first p n < n then fa_first p n else if p n then n else n + 1
theorem fa_first_le (p : Nat → Bool) : ∀ n, fa_first p n ≤ n
  | 0 => Nat.le_refl 0
  | n + 1 => by
    have ih := fa_first_le p n
    unfold fa_first
    split
    · omega
    · split
      · omega
      · omega
theorem fa_first_no (p : Nat → Bool) : ∀ n k, k < fa_first p n → p k = false
  | 0, k, h => absurd h (Nat.not_lt_zero k)
  | n + 1, k, h => by
    have ih := fa_first_no p n
    have hl := fa_first_le p n
    unfold fa_first at h
    split at h
    · exact ih k h
    · rename_i h1
      split at h
      · exact ih k (by omega)
      · rename_i h2
        by_cases e : k = n
        · subst e
          exact Bool.eq_false_iff.mpr h2
        · exact ih k (by omega)
theorem fa_first_yes (p : Nat → Bool) : ∀ n, fa_first p n < n → p (fa_first p n) = true
  | 0, h => absurd h (Nat.not_lt_zero _)
  | n + 1, h => by
    have ih := fa_first_yes p n
    have hl := fa_first_le p n
    unfold fa_first at h ⊢
    split at h
    · rename_i h1
      rw [if_pos h1]
      exact ih h1
    · rename_i h1
      rw [if_neg h1]
      split at h
      · rename_i h2
        rw [if_pos h2]
        exact h2
      · omega
/-- how many k < n have p k -/
def fa_cnt (p : Nat → Bool) : Nat → Nat
  | 0 => 0
  | n + 1 => fa_cnt p n + if p n then 1 else 0
theorem fa_cnt_le (p : Nat → Bool) : ∀ n, fa_cnt p n ≤ n
  | 0 => Nat.le_refl 0
  | n + 1 => by
    have ih := fa_cnt_le p n
    unfold fa_cnt
    split
    · omega
    · omega
theorem fa_cnt_yes {p : Nat → Bool} {n : Nat} (h : p n = true) : fa_cnt p (n + 1) = fa_cnt p n + 1 := by rw [fa_cnt, if_pos h]
theorem fa_cnt_no {p : Nat → Bool} {n : Nat} (h : p n = false) : fa_cnt p (n + 1) = fa_cnt p n := by rw [fa_cnt, if_neg (by rw [h]; decide)]; rfl
theorem fa_cnt_cong {p q : Nat → Bool} : ∀ {n : Nat}, (∀ k, k < n → p k = q k) → fa_cnt p n = fa_cnt q n
  | 0, _ => rfl
  | n + 1, h => by rw [fa_cnt, fa_cnt, fa_cnt_cong (fun k hk => h k (Nat.lt_succ_of_lt hk)), h n (Nat.lt_succ_self n)]
/-! ===== an answer carried into a post; a branch on a boolean answer ===== -/
theorem fa_post {α : Type} {P : α → Prop} {x y : α} (h : x = y) (hp : P y) : P x := h ▸ hp
theorem fa_post2 {α β : Type} {P : α → β → Prop} {x y : α} {u v : β} (h : x = y) (h2 : u = v) (hp : P y v) : P x u := h ▸ h2 ▸ hp
theorem fa_bool {r : Int32} {b : Bool} (h : r = if b then 1 else 0) : (r = 0 ↔ b = false) ∧ (¬ r = 0 ↔ b = true) := by
  subst h
  cases b
  · exact ⟨⟨fun _ => rfl, fun _ => rfl⟩, ⟨fun h => absurd rfl h, fun h => absurd h (by decide)⟩⟩
  · exact ⟨⟨fun h => absurd h (by decide), fun h => absurd h (by decide)⟩, ⟨fun _ => rfl, fun _ => by decide⟩⟩
/-- a boolean's narrowing changes nothing -/
theorem fa_bool_and {r : Int32} (h : r = 0 ∨ r = 1) : r &&& 1 = r := by
  rcases h with rfl | rfl
  · decide
  · decide
theorem fa_bool_prop {c : Prop} [Decidable c] {r : Int32} (h : r = if c then 1 else 0) : (r = 0 ↔ ¬ c) ∧ (¬ r = 0 ↔ c) := by
  subst h
  by_cases hc : c
  · rw [if_pos hc]
    exact ⟨⟨fun h => absurd h (by decide), fun h => absurd hc h⟩, ⟨fun _ => hc, fun _ => by decide⟩⟩
  · rw [if_neg hc]
    exact ⟨⟨fun _ => hc, fun _ => rfl⟩, ⟨fun h => absurd rfl h, fun h => absurd h hc⟩⟩
/-! plain facts to paste, each family by itself; over the kit's nI, lN and upd -/
/-! ===== drawers: more things than places ===== -/
theorem fb_holes : ∀ (m n : Nat) (f : Nat → Nat), (∀ i, i < n → f i < m) → (∀ i j, i < j → j < n → f i ≠ f j) → n ≤ m := by
  intro m
  induction m with
  | zero =>
    intro n f h1 _
    rcases Nat.eq_zero_or_pos n with h | h
    · omega
    · exact absurd (h1 0 h) (Nat.not_lt_zero _)
  | succ m ih =>
    intro n f h1 h2
    by_cases hx : ∃ i, i < n ∧ f i = m
    · obtain ⟨a, ha, hfa⟩ := hx
      have hg := ih (n - 1) (fun i => if i < a then f i else f (i + 1)) (by
        intro i hi
        by_cases q : i < a
        · simp only [if_pos q]
          have b1 := h1 i (by omega)
          have b2 := h2 i a q ha
          omega
        · simp only [if_neg q]
          have b1 := h1 (i + 1) (by omega)
          have b2 := h2 a (i + 1) (by omega) (by omega)
          omega) (by
        intro i j hij hj
        by_cases q : i < a
        · by_cases r : j < a
          · simp only [if_pos q, if_pos r]
            exact h2 i j hij (by omega)
          · simp only [if_pos q, if_neg r]
            exact h2 i (j + 1) (by omega) (by omega)
        · have r : ¬ j < a := by omega
          simp only [if_neg q, if_neg r]
          exact h2 (i + 1) (j + 1) (by omega) (by omega))
      omega
    · have hg := ih n f (fun i hi => by
        have b1 := h1 i hi
        have b2 : f i ≠ m := fun e => hx ⟨i, hi, e⟩
        omega) h2
      omega
/-- two of them in one place -/
theorem fb_twice {m n : Nat} {f : Nat → Nat} (h : ∀ i, i < n → f i < m) (hm : m < n) : ∃ i j, i < j ∧ j < n ∧ f i = f j := by
  refine Classical.byContradiction fun hx => ?_
  have := fb_holes m n f h (fun i j hij hj e => hx ⟨i, j, hij, hj, e⟩)
  omega
/-- as many as places, none twice: each place is taken -/
theorem fb_onto {n : Nat} {f : Nat → Nat} (h : ∀ i, i < n → f i < n) (h2 : ∀ i j, i < j → j < n → f i ≠ f j) {y : Nat} (hy : y < n) : ∃ i, i < n ∧ f i = y := by
  refine Classical.byContradiction fun hx => ?_
  have hne : ∀ i, i < n → f i ≠ y := fun i hi e => hx ⟨i, hi, e⟩
  have := fb_holes (n - 1) n (fun i => if f i < y then f i else f i - 1) (by
    intro i hi
    have b1 := h i hi
    have b2 := hne i hi
    by_cases q : f i < y
    · simp only [if_pos q]; omega
    · simp only [if_neg q]; omega) (by
    intro i j hij hj
    have b1 := hne i (by omega)
    have b2 := hne j hj
    have b3 := h2 i j hij hj
    by_cases q : f i < y
    · by_cases r : f j < y
      · simp only [if_pos q, if_pos r]; exact b3
      · simp only [if_pos q, if_neg r]; omega
    · by_cases r : f j < y
      · simp only [if_neg q, if_pos r]; omega
      · simp only [if_neg q, if_neg r]; omega)
  omega
/-! ===== how many places have a property ===== -/
def fb_ct (p : Nat → Bool) : Nat → Nat
  | 0 => 0
  | n + 1 => fb_ct p n + (if p n then 1 else 0)
theorem fb_ct_succ (p : Nat → Bool) (n : Nat) : fb_ct p (n + 1) = fb_ct p n + (if p n then 1 else 0) := rfl
theorem fb_ct_le (p : Nat → Bool) : ∀ n, fb_ct p n ≤ n
  | 0 => Nat.le_refl _
  | n + 1 => by
    have h := fb_ct_le p n
    rw [fb_ct_succ]
    split <;> omega
theorem fb_ct_step (p : Nat → Bool) (m : Nat) : ∀ n, fb_ct p m ≤ fb_ct p (m + n)
  | 0 => Nat.le_refl _
  | n + 1 => by
    have h := fb_ct_step p m n
    show fb_ct p m ≤ fb_ct p (m + n + 1)
    rw [fb_ct_succ]
    omega
theorem fb_ct_mono (p : Nat → Bool) {m n : Nat} (h : m ≤ n) : fb_ct p m ≤ fb_ct p n := by
  have := fb_ct_step p m (n - m)
  rwa [Nat.add_sub_cancel' h] at this
theorem fb_ct_cong {p q : Nat → Bool} : ∀ {n : Nat}, (∀ k, k < n → p k = q k) → fb_ct p n = fb_ct q n
  | 0, _ => rfl
  | n + 1, h => by
    rw [fb_ct_succ, fb_ct_succ, fb_ct_cong (fun k hk => h k (by omega)), h n (by omega)]
/-- one place changed -/
theorem fb_ct_out (p : Nat → Bool) (b : Bool) {i n : Nat} (h : n ≤ i) : fb_ct (fun k => if k = i then b else p k) n = fb_ct p n :=
  fb_ct_cong fun k hk => if_neg (by omega)
theorem fb_ct_upd (p : Nat → Bool) (b : Bool) {i : Nat} : ∀ {n : Nat}, i < n → fb_ct (fun k => if k = i then b else p k) n + (if p i then 1 else 0) = fb_ct p n + (if b then 1 else 0)
  | 0, h => absurd h (Nat.not_lt_zero i)
  | n + 1, h => by
    rw [fb_ct_succ, fb_ct_succ]
    rcases Nat.lt_or_ge i n with q | q
    · have := fb_ct_upd p b q
      have e : (if n = i then b else p n) = p n := if_neg (by omega)
      rw [e]
      omega
    · have e : i = n := by omega
      subst e
      rw [fb_ct_out p b (Nat.le_refl _)]
      simp only [if_true]
      omega
theorem fb_ct_sub {p q : Nat → Bool} : ∀ {n : Nat}, (∀ k, k < n → p k = true → q k = true) → fb_ct p n ≤ fb_ct q n
  | 0, _ => Nat.le_refl _
  | n + 1, h => by
    have h1 := fb_ct_sub (n := n) (p := p) (q := q) (fun k hk => h k (by omega))
    have h2 := h n (by omega)
    rw [fb_ct_succ, fb_ct_succ]
    cases hp : p n <;> cases hq : q n <;> simp_all <;> omega
theorem fb_ct_or {p q : Nat → Bool} : ∀ {n : Nat}, (∀ k, k < n → ¬ (p k = true ∧ q k = true)) → fb_ct (fun k => p k || q k) n = fb_ct p n + fb_ct q n
  | 0, _ => rfl
  | n + 1, h => by
    have h1 := fb_ct_or (n := n) (p := p) (q := q) (fun k hk => h k (by omega))
    have h2 := h n (by omega)
    rw [fb_ct_succ, fb_ct_succ, fb_ct_succ, h1]
    cases hp : p n <;> cases hq : q n <;> simp_all <;> omega
theorem fb_ct_not (p : Nat → Bool) : ∀ n, fb_ct p n + fb_ct (fun k => !p k) n = n
  | 0 => rfl
  | n + 1 => by
    have h := fb_ct_not p n
    rw [fb_ct_succ, fb_ct_succ]
    cases p n <;> simp <;> omega
theorem fb_ct_split (p : Nat → Bool) (m : Nat) : ∀ n, fb_ct p (m + n) = fb_ct p m + fb_ct (fun k => p (m + k)) n
  | 0 => rfl
  | n + 1 => by
    have h := fb_ct_split p m n
    show fb_ct p (m + n + 1) = _
    rw [fb_ct_succ, fb_ct_succ, h, Nat.add_assoc]
theorem fb_ct_zero {p : Nat → Bool} : ∀ {n : Nat}, fb_ct p n = 0 ↔ ∀ k, k < n → p k = false
  | 0 => ⟨fun _ k hk => absurd hk (Nat.not_lt_zero k), fun _ => rfl⟩
  | n + 1 => by
    have h := fb_ct_zero (p := p) (n := n)
    rw [fb_ct_succ]
    constructor
    · intro e k hk
      have e1 : fb_ct p n = 0 := by omega
      rcases Nat.lt_or_ge k n with q | q
      · exact h.mp e1 k q
      · have ek : k = n := by omega
        subst ek
        cases hp : p k
        · rfl
        · simp [hp] at e
    · intro a
      rw [h.mpr (fun k hk => a k (by omega)), a n (by omega)]
      rfl
theorem fb_ct_pos {p : Nat → Bool} {n : Nat} : 0 < fb_ct p n ↔ ∃ k, k < n ∧ p k = true := by
  constructor
  · intro h
    refine Classical.byContradiction fun hx => ?_
    have := fb_ct_zero.mpr (fun k hk => by
      cases hp : p k
      · rfl
      · exact absurd ⟨k, hk, hp⟩ hx : ∀ k, k < n → p k = false)
    omega
  · rintro ⟨k, hk, hp⟩
    rcases Nat.eq_zero_or_pos (fb_ct p n) with e | e
    · have := fb_ct_zero.mp e k hk
      rw [this] at hp
      cases hp
    · exact e
theorem fb_ct_all {p : Nat → Bool} {n : Nat} : fb_ct p n = n ↔ ∀ k, k < n → p k = true := by
  have h := fb_ct_not p n
  constructor
  · intro e k hk
    have z : fb_ct (fun k => !p k) n = 0 := by omega
    have := fb_ct_zero.mp z k hk
    cases hp : p k
    · simp [hp] at this
    · rfl
  · intro a
    have z : fb_ct (fun k => !p k) n = 0 := fb_ct_zero.mpr (fun k hk => by simp [a k hk])
    omega
/-- the k-th place with the property -/
theorem fb_ct_kth {p : Nat → Bool} {k : Nat} : ∀ {n : Nat}, k < fb_ct p n → ∃ i, i < n ∧ p i = true ∧ fb_ct p i = k
  | 0, h => absurd h (Nat.not_lt_zero k)
  | n + 1, h => by
    rcases Nat.lt_or_ge k (fb_ct p n) with q | q
    · obtain ⟨i, h1, h2⟩ := fb_ct_kth q
      exact ⟨i, by omega, h2⟩
    · rw [fb_ct_succ] at h
      cases hp : p n
      · simp [hp] at h; omega
      · simp [hp] at h
        exact ⟨n, by omega, hp, by omega⟩
theorem fb_ct_kth_one {p : Nat → Bool} {i j : Nat} (hi : p i = true) (hj : p j = true) (e : fb_ct p i = fb_ct p j) : i = j := by
  have key : ∀ a b : Nat, a < b → p a = true → fb_ct p a < fb_ct p b := by
    intro a b hab ha
    have h := fb_ct_mono p (show a + 1 ≤ b from hab)
    rw [fb_ct_succ, ha] at h
    simp at h
    omega
  rcases Nat.lt_trichotomy i j with q | q | q
  · have := key i j q hi; omega
  · exact q
  · have := key j i q hj; omega
/-! ===== sums over a range: one place changed, parts, bounds ===== -/
def fb_sm (f : Nat → Nat) : Nat → Nat
  | 0 => 0
  | n + 1 => fb_sm f n + f n
theorem fb_sm_succ (f : Nat → Nat) (n : Nat) : fb_sm f (n + 1) = fb_sm f n + f n := rfl
theorem fb_sm_cong {f g : Nat → Nat} : ∀ {n : Nat}, (∀ k, k < n → f k = g k) → fb_sm f n = fb_sm g n
  | 0, _ => rfl
  | n + 1, h => by rw [fb_sm_succ, fb_sm_succ, fb_sm_cong (fun k hk => h k (by omega)), h n (by omega)]
theorem fb_sm_out (f : Nat → Nat) (v : Nat) {i n : Nat} (h : n ≤ i) : fb_sm (fun k => if k = i then v else f k) n = fb_sm f n :=
  fb_sm_cong fun k hk => if_neg (by omega)
theorem fb_sm_upd (f : Nat → Nat) (v : Nat) {i : Nat} : ∀ {n : Nat}, i < n → fb_sm (fun k => if k = i then v else f k) n + f i = fb_sm f n + v
  | 0, h => absurd h (Nat.not_lt_zero i)
  | n + 1, h => by
    rw [fb_sm_succ, fb_sm_succ]
    rcases Nat.lt_or_ge i n with q | q
    · have := fb_sm_upd f v q
      have e : (if n = i then v else f n) = f n := if_neg (by omega)
      rw [e]
      omega
    · have e : i = n := by omega
      subst e
      rw [fb_sm_out f v (Nat.le_refl _)]
      simp only [if_true]
      omega
theorem fb_sm_add (f g : Nat → Nat) : ∀ n, fb_sm (fun k => f k + g k) n = fb_sm f n + fb_sm g n
  | 0 => rfl
  | n + 1 => by
    have h := fb_sm_add f g n
    rw [fb_sm_succ, fb_sm_succ, fb_sm_succ, h]
    omega
theorem fb_sm_le {f g : Nat → Nat} : ∀ {n : Nat}, (∀ k, k < n → f k ≤ g k) → fb_sm f n ≤ fb_sm g n
  | 0, _ => Nat.le_refl _
  | n + 1, h => by
    have h1 := fb_sm_le (n := n) (f := f) (g := g) (fun k hk => h k (by omega))
    have h2 := h n (by omega)
    rw [fb_sm_succ, fb_sm_succ]
    omega
theorem fb_sm_const (c : Nat) : ∀ n, fb_sm (fun _ => c) n = n * c
  | 0 => by rw [Nat.zero_mul]; rfl
  | n + 1 => by rw [fb_sm_succ, fb_sm_const c n, Nat.succ_mul]
theorem fb_sm_bound {f : Nat → Nat} {c n : Nat} (h : ∀ k, k < n → f k ≤ c) : fb_sm f n ≤ n * c := by
  rw [← fb_sm_const c n]
  exact fb_sm_le h
theorem fb_sm_mono (f : Nat → Nat) (m : Nat) : ∀ n, fb_sm f m ≤ fb_sm f (m + n)
  | 0 => Nat.le_refl _
  | n + 1 => by
    have h := fb_sm_mono f m n
    show fb_sm f m ≤ fb_sm f (m + n + 1)
    rw [fb_sm_succ]
    omega
theorem fb_sm_part (f : Nat → Nat) {i n : Nat} (h : i < n) : fb_sm f i + f i ≤ fb_sm f n := by
  have := fb_sm_mono f (i + 1) (n - (i + 1))
  rw [fb_sm_succ, show i + 1 + (n - (i + 1)) = n by omega] at this
  exact this
theorem fb_sm_split (f : Nat → Nat) (m : Nat) : ∀ n, fb_sm f (m + n) = fb_sm f m + fb_sm (fun k => f (m + k)) n
  | 0 => rfl
  | n + 1 => by
    have h := fb_sm_split f m n
    show fb_sm f (m + n + 1) = _
    rw [fb_sm_succ, fb_sm_succ, h, Nat.add_assoc]
theorem fb_sm_zero {f : Nat → Nat} {n : Nat} (h : fb_sm f n = 0) : ∀ k, k < n → f k = 0 := fun k hk => by
  have := fb_sm_part f hk
  omega
/-- the same over whole numbers -/
def fb_si (f : Nat → Int) : Nat → Int
  | 0 => 0
  | n + 1 => fb_si f n + f n
theorem fb_si_succ (f : Nat → Int) (n : Nat) : fb_si f (n + 1) = fb_si f n + f n := rfl
theorem fb_si_cong {f g : Nat → Int} : ∀ {n : Nat}, (∀ k, k < n → f k = g k) → fb_si f n = fb_si g n
  | 0, _ => rfl
  | n + 1, h => by rw [fb_si_succ, fb_si_succ, fb_si_cong (fun k hk => h k (by omega)), h n (by omega)]
theorem fb_si_out (f : Nat → Int) (v : Int) {i n : Nat} (h : n ≤ i) : fb_si (fun k => if k = i then v else f k) n = fb_si f n :=
  fb_si_cong fun k hk => if_neg (by omega)
theorem fb_si_upd (f : Nat → Int) (v : Int) {i : Nat} : ∀ {n : Nat}, i < n → fb_si (fun k => if k = i then v else f k) n = fb_si f n - f i + v
  | 0, h => absurd h (Nat.not_lt_zero i)
  | n + 1, h => by
    rw [fb_si_succ, fb_si_succ]
    rcases Nat.lt_or_ge i n with q | q
    · have := fb_si_upd f v q
      have e : (if n = i then v else f n) = f n := if_neg (by omega)
      rw [e]
      omega
    · have e : i = n := by omega
      subst e
      rw [fb_si_out f v (Nat.le_refl _)]
      simp only [if_true]
      omega
theorem fb_si_add (f g : Nat → Int) : ∀ n, fb_si (fun k => f k + g k) n = fb_si f n + fb_si g n
  | 0 => rfl
  | n + 1 => by
    have h := fb_si_add f g n
    rw [fb_si_succ, fb_si_succ, fb_si_succ, h]
    omega
theorem fb_si_sub (f g : Nat → Int) : ∀ n, fb_si (fun k => f k - g k) n = fb_si f n - fb_si g n
  | 0 => rfl
  | n + 1 => by
    have h := fb_si_sub f g n
    rw [fb_si_succ, fb_si_succ, fb_si_succ, h]
    omega
theorem fb_si_mul (c : Int) (f : Nat → Int) : ∀ n, fb_si (fun k => c * f k) n = c * fb_si f n
  | 0 => (Int.mul_zero c).symm
  | n + 1 => by
    have h := fb_si_mul c f n
    rw [fb_si_succ, fb_si_succ, h, Int.mul_add]
theorem fb_si_split (f : Nat → Int) (m : Nat) : ∀ n, fb_si f (m + n) = fb_si f m + fb_si (fun k => f (m + k)) n
  | 0 => (Int.add_zero _).symm
  | n + 1 => by
    have h := fb_si_split f m n
    show fb_si f (m + n + 1) = _
    rw [fb_si_succ, fb_si_succ, h, Int.add_assoc]
theorem fb_si_nat (f : Nat → Nat) : ∀ n, fb_si (fun k => (f k : Int)) n = (fb_sm f n : Int)
  | 0 => rfl
  | n + 1 => by
    have h := fb_si_nat f n
    rw [fb_si_succ, fb_sm_succ, h]
    omega
theorem fb_si_bound {f : Nat → Int} {c : Int} (hc : 0 ≤ c) : ∀ {n : Nat}, (∀ k, k < n → -c ≤ f k ∧ f k ≤ c) → -(n * c) ≤ fb_si f n ∧ fb_si f n ≤ n * c
  | 0, _ => by simp [fb_si]
  | n + 1, h => by
    have h1 := fb_si_bound (n := n) (f := f) hc (fun k hk => h k (by omega))
    have h2 := h n (by omega)
    have e : ((n + 1 : Nat) : Int) * c = n * c + c := by rw [Int.natCast_add, Int.add_mul]; simp
    rw [fb_si_succ, e]
    omega
/-! ===== bits of a long that isn't negative ===== -/
theorem fb_andL (a b : Nat) : lN a &&& lN b = lN (a &&& b) := by
  apply Int64.toBitVec_inj.1
  show BitVec.ofNat 64 a &&& BitVec.ofNat 64 b = BitVec.ofNat 64 (a &&& b)
  apply BitVec.eq_of_getLsbD_eq
  intro i hi
  simp [hi]
theorem fb_orL (a b : Nat) : lN a ||| lN b = lN (a ||| b) := by
  apply Int64.toBitVec_inj.1
  show BitVec.ofNat 64 a ||| BitVec.ofNat 64 b = BitVec.ofNat 64 (a ||| b)
  apply BitVec.eq_of_getLsbD_eq
  intro i hi
  simp [hi]
theorem fb_xorL (a b : Nat) : lN a ^^^ lN b = lN (a ^^^ b) := by
  apply Int64.toBitVec_inj.1
  show BitVec.ofNat 64 a ^^^ BitVec.ofNat 64 b = BitVec.ofNat 64 (a ^^^ b)
  apply BitVec.eq_of_getLsbD_eq
  intro i hi
  simp [hi]
theorem fb_xorI (a b : Nat) : nI a ^^^ nI b = nI (a ^^^ b) := by
  apply Int32.toBitVec_inj.1
  show BitVec.ofNat 32 a ^^^ BitVec.ofNat 32 b = BitVec.ofNat 32 (a ^^^ b)
  apply BitVec.eq_of_getLsbD_eq
  intro i hi
  simp [hi]
theorem fb_maskL (n k : Nat) : lN n &&& lN (2 ^ k - 1) = lN (n % 2 ^ k) := by rw [fb_andL, Nat.and_two_pow_sub_one_eq_mod]
theorem fb_or_sumL {a k : Nat} (b : Nat) (h : a < 2 ^ k) : lN (2 ^ k * b) ||| lN a = lN (2 ^ k * b + a) := by rw [fb_orL, Nat.two_pow_add_eq_or_of_lt h]
theorem fb_lN_inj {a b : Nat} (ha : a < 2 ^ 63) (hb : b < 2 ^ 63) : lN a = lN b ↔ a = b := by
  constructor
  · intro h
    have h1 : (BitVec.ofNat 64 a).toNat = (BitVec.ofNat 64 b).toNat := congrArg (fun x : Int64 => x.toBitVec.toNat) h
    rw [BitVec.toNat_ofNat, BitVec.toNat_ofNat, Nat.mod_eq_of_lt (by omega), Nat.mod_eq_of_lt (by omega)] at h1
    exact h1
  · rintro rfl; rfl
theorem fb_bit_nat (n j : Nat) : n &&& 2 ^ j = 0 ↔ n.testBit j = false := by
  constructor
  · intro h
    have h1 : (n &&& 2 ^ j).testBit j = false := by rw [h]; simp
    rw [Nat.testBit_and] at h1
    simpa using h1
  · intro h
    apply Nat.eq_of_testBit_eq
    intro i
    rw [Nat.testBit_and]
    by_cases hi : j = i
    · subst hi; simp [h]
    · first | (simp [Nat.testBit_two_pow, hi]; done) | (simp [Nat.testBit_two_pow_of_ne hi]; done)
/-- one bit of a long -/
theorem fb_bitL {n j : Nat} (hj : j < 63) : lN n &&& lN (2 ^ j) = 0 ↔ n.testBit j = false := by
  have h2 : (2 : Nat) ^ j < 2 ^ 63 := Nat.pow_lt_pow_right (by decide) hj
  have hle : n &&& 2 ^ j ≤ 2 ^ j := Nat.and_le_right
  rw [fb_andL, ← fb_bit_nat, show (0 : Int64) = lN 0 from rfl]
  exact fb_lN_inj (by omega) (by decide)
/-- a bit set, a bit taken off -/
theorem fb_bit_set (n j i : Nat) : (n ||| 2 ^ j).testBit i = (n.testBit i || decide (i = j)) := by
  rw [Nat.testBit_or]
  by_cases h : j = i
  · subst h; simp
  · have h2 : ¬ i = j := fun e => h e.symm
    first | (simp [Nat.testBit_two_pow, h, h2]; done) | (simp [Nat.testBit_two_pow_of_ne h, h2]; done)
theorem fb_bit_flip (n j i : Nat) : (n ^^^ 2 ^ j).testBit i = (n.testBit i ^^ decide (i = j)) := by
  rw [Nat.testBit_xor]
  by_cases h : j = i
  · subst h; simp
  · have h2 : ¬ i = j := fun e => h e.symm
    first | (simp [Nat.testBit_two_pow, h, h2]; done) | (simp [Nat.testBit_two_pow_of_ne h, h2]; done)
/-! ===== a stretch of an array written over by a function ===== -/
def fb_put {α : Type} (f g : Nat → α) (a n : Nat) : Nat → α := fun k => if a ≤ k ∧ k < a + n then g (k - a) else f k
theorem fb_put_0 {α : Type} (f g : Nat → α) (a : Nat) : fb_put f g a 0 = f := funext fun k => if_neg (by omega)
theorem fb_put_in {α : Type} {f g : Nat → α} {a n k : Nat} (h1 : a ≤ k) (h2 : k < a + n) : fb_put f g a n k = g (k - a) := if_pos ⟨h1, h2⟩
theorem fb_put_out {α : Type} {f g : Nat → α} {a n k : Nat} (h : k < a ∨ a + n ≤ k) : fb_put f g a n k = f k := if_neg (by omega)
theorem fb_put_succ (f g : Nat → Int32) (a n : Nat) : upd (fb_put f g a n) (a + n) (g n) = fb_put f g a (n + 1) := by
  funext k
  by_cases h : k = a + n
  · subst h
    simp [upd, fb_put]
  · by_cases h1 : a ≤ k ∧ k < a + n
    · have h2 : a ≤ k ∧ k < a + (n + 1) := by omega
      simp only [upd, fb_put, if_neg h, if_pos h1, if_pos h2]
    · have h2 : ¬ (a ≤ k ∧ k < a + (n + 1)) := by omega
      simp only [upd, fb_put, if_neg h, if_neg h1, if_neg h2]
/-- .. from the far end down -/
theorem fb_put_down (f g : Nat → Int32) {a n m : Nat} (h : m < n) : upd (fb_put f (fun k => g (k + (m + 1))) (a + (m + 1)) (n - (m + 1))) (a + m) (g m) = fb_put f (fun k => g (k + m)) (a + m) (n - m) := by
  funext k
  by_cases h0 : k = a + m
  · subst h0
    simp only [upd, if_true]
    rw [fb_put_in (by omega) (by omega)]
    exact congrArg g (by omega)
  · simp only [upd, if_neg h0]
    by_cases h1 : a + (m + 1) ≤ k ∧ k < a + (m + 1) + (n - (m + 1))
    · rw [fb_put_in h1.1 h1.2, fb_put_in (by omega) (by omega)]
      exact congrArg g (by omega)
    · rw [fb_put_out (by omega), fb_put_out (by omega)]
theorem fb_put_cong {α : Type} {f f2 g g2 : Nat → α} {a n : Nat} (hf : ∀ k, (k < a ∨ a + n ≤ k) → f k = f2 k) (hg : ∀ k, k < n → g k = g2 k) : fb_put f g a n = fb_put f2 g2 a n := by
  funext k
  by_cases h : a ≤ k ∧ k < a + n
  · rw [fb_put_in h.1 h.2, fb_put_in h.1 h.2, hg _ (by omega)]
  · rw [fb_put_out (by omega), fb_put_out (by omega), hf _ (by omega)]
/-! ===== the least, the first, the best so far; that there is one alone ===== -/
theorem fb_first {p : Nat → Prop} [DecidablePred p] : ∀ {n : Nat}, (∃ i, i < n ∧ p i) → ∃ i, i < n ∧ p i ∧ ∀ j, j < i → ¬ p j
  | 0, h => by obtain ⟨i, hi, -⟩ := h; exact absurd hi (Nat.not_lt_zero i)
  | n + 1, h => by
    by_cases q : ∃ i, i < n ∧ p i
    · obtain ⟨i, h1, h2⟩ := fb_first q
      exact ⟨i, by omega, h2⟩
    · obtain ⟨i, h1, h2⟩ := h
      have e : i = n := by
        rcases Nat.lt_or_ge i n with r | r
        · exact absurd ⟨i, r, h2⟩ q
        · omega
      subst e
      exact ⟨i, by omega, h2, fun j hj hp => q ⟨j, hj, hp⟩⟩
theorem fb_first_one {p : Nat → Prop} {i j : Nat} (hi : p i) (hi2 : ∀ k, k < i → ¬ p k) (hj : p j) (hj2 : ∀ k, k < j → ¬ p k) : i = j := by
  rcases Nat.lt_trichotomy i j with q | q | q
  · exact absurd hi (hj2 i q)
  · exact q
  · exact absurd hj (hi2 j q)
theorem fb_last {p : Nat → Prop} [DecidablePred p] : ∀ {n : Nat}, (∃ i, i < n ∧ p i) → ∃ i, i < n ∧ p i ∧ ∀ j, i < j → j < n → ¬ p j
  | 0, h => by obtain ⟨i, hi, -⟩ := h; exact absurd hi (Nat.not_lt_zero i)
  | n + 1, h => by
    by_cases q : p n
    · exact ⟨n, by omega, q, fun j h1 h2 => by omega⟩
    · obtain ⟨i, h1, h2⟩ := h
      have hi : i < n := by
        rcases Nat.lt_or_ge i n with r | r
        · exact r
        · have e : i = n := by omega
          subst e
          exact absurd h2 q
      obtain ⟨i2, a1, a2, a3⟩ := fb_last (n := n) ⟨i, hi, h2⟩
      refine ⟨i2, by omega, a2, fun j b1 b2 => ?_⟩
      rcases Nat.lt_or_ge j n with r | r
      · exact a3 j b1 r
      · have e : j = n := by omega
        subst e
        exact q
/-- the first greatest -/
theorem fb_best (f : Nat → Int) : ∀ {n : Nat}, 0 < n → ∃ i, i < n ∧ (∀ j, j < n → f j ≤ f i) ∧ ∀ j, j < i → f j < f i
  | 0, h => absurd h (Nat.lt_irrefl 0)
  | 1, _ => ⟨0, by omega, fun j hj => by have e : j = 0 := by omega
                                         subst e; exact Int.le_refl _, fun j hj => absurd hj (Nat.not_lt_zero j)⟩
  | n + 2, _ => by
    obtain ⟨i, h1, h2, h3⟩ := fb_best f (n := n + 1) (by omega)
    by_cases q : f i < f (n + 1)
    · refine ⟨n + 1, by omega, fun j hj => ?_, fun j hj => ?_⟩
      · rcases Nat.lt_or_ge j (n + 1) with r | r
        · have := h2 j r; omega
        · have e : j = n + 1 := by omega
          subst e; exact Int.le_refl _
      · have := h2 j hj; omega
    · refine ⟨i, by omega, fun j hj => ?_, h3⟩
      rcases Nat.lt_or_ge j (n + 1) with r | r
      · exact h2 j r
      · have e : j = n + 1 := by omega
        subst e; omega
theorem fb_best_one {f : Nat → Int} {n i j : Nat} (hi : i < n) (hi2 : ∀ k, k < n → f k ≤ f i) (hi3 : ∀ k, k < i → f k < f i) (hj : j < n) (hj2 : ∀ k, k < n → f k ≤ f j) (hj3 : ∀ k, k < j → f k < f j) : i = j := by
  rcases Nat.lt_trichotomy i j with q | q | q
  · have a := hj3 i q
    have b := hi2 j hj
    omega
  · exact q
  · have a := hi3 j q
    have b := hj2 i hi
    omega
/-- the first least -/
theorem fb_low (f : Nat → Int) {n : Nat} (h : 0 < n) : ∃ i, i < n ∧ (∀ j, j < n → f i ≤ f j) ∧ ∀ j, j < i → f i < f j := by
  obtain ⟨i, h1, h2, h3⟩ := fb_best (fun k => -f k) h
  exact ⟨i, h1, fun j hj => by have := h2 j hj; omega, fun j hj => by have := h3 j hj; omega⟩
/-! ===== signed ints as whole numbers, within bounds ===== -/
theorem fb_rng (x : Int32) : -2147483648 ≤ x.toInt ∧ x.toInt < 2147483648 := by
  have h1 := Int32.le_toInt x
  have h2 := Int32.toInt_lt x
  omega
theorem fb_bmod {z : Int} (h1 : -2147483648 ≤ z) (h2 : z < 2147483648) : z.bmod (2 ^ 32) = z := by
  rw [Int.bmod_eq_of_le (by omega) (by omega)]
theorem fb_addI {x y : Int32} (h1 : -2147483648 ≤ x.toInt + y.toInt) (h2 : x.toInt + y.toInt < 2147483648) : (x + y).toInt = x.toInt + y.toInt := by
  rw [Int32.toInt_add, fb_bmod h1 h2]
theorem fb_subI {x y : Int32} (h1 : -2147483648 ≤ x.toInt - y.toInt) (h2 : x.toInt - y.toInt < 2147483648) : (x - y).toInt = x.toInt - y.toInt := by
  rw [Int32.toInt_sub, fb_bmod h1 h2]
theorem fb_mulI {x y : Int32} (h1 : -2147483648 ≤ x.toInt * y.toInt) (h2 : x.toInt * y.toInt < 2147483648) : (x * y).toInt = x.toInt * y.toInt := by
  rw [Int32.toInt_mul, fb_bmod h1 h2]
theorem fb_negI {x : Int32} (h : x.toInt ≠ -2147483648) : (-x).toInt = -x.toInt := by
  have := fb_rng x
  rw [Int32.toInt_neg, fb_bmod (by omega) (by omega)]
theorem fb_ofI {z : Int} (h1 : -2147483648 ≤ z) (h2 : z < 2147483648) : (Int32.ofInt z).toInt = z := by
  rw [Int32.toInt_ofInt, fb_bmod h1 h2]
theorem fb_asI (x : Int32) : Int32.ofInt x.toInt = x := Int32.ofInt_toInt x
theorem fb_rngL (x : Int64) : -9223372036854775808 ≤ x.toInt ∧ x.toInt < 9223372036854775808 := by
  have h1 := Int64.le_toInt x
  have h2 := Int64.toInt_lt x
  omega
theorem fb_bmodL {z : Int} (h1 : -9223372036854775808 ≤ z) (h2 : z < 9223372036854775808) : z.bmod (2 ^ 64) = z := by
  rw [Int.bmod_eq_of_le (by omega) (by omega)]
theorem fb_addL {x y : Int64} (h1 : -9223372036854775808 ≤ x.toInt + y.toInt) (h2 : x.toInt + y.toInt < 9223372036854775808) : (x + y).toInt = x.toInt + y.toInt := by
  rw [Int64.toInt_add, fb_bmodL h1 h2]
theorem fb_subL {x y : Int64} (h1 : -9223372036854775808 ≤ x.toInt - y.toInt) (h2 : x.toInt - y.toInt < 9223372036854775808) : (x - y).toInt = x.toInt - y.toInt := by
  rw [Int64.toInt_sub, fb_bmodL h1 h2]
theorem fb_mulL {x y : Int64} (h1 : -9223372036854775808 ≤ x.toInt * y.toInt) (h2 : x.toInt * y.toInt < 9223372036854775808) : (x * y).toInt = x.toInt * y.toInt := by
  rw [Int64.toInt_mul, fb_bmodL h1 h2]
/-! ===== cuts of what is narrow already ===== -/
theorem fb_byte {x : Int32} (h1 : -128 ≤ x.toInt) (h2 : x.toInt < 128) : x.toInt8.toInt32 = x := by
  apply Int32.toInt_inj.1
  rw [Int8.toInt_toInt32, Int32.toInt_toInt8, Int.bmod_eq_of_le (by omega) (by omega)]
theorem fb_short {x : Int32} (h1 : -32768 ≤ x.toInt) (h2 : x.toInt < 32768) : x.toInt16.toInt32 = x := by
  apply Int32.toInt_inj.1
  rw [Int16.toInt_toInt32, Int32.toInt_toInt16, Int.bmod_eq_of_le (by omega) (by omega)]
theorem fb_byte_rng (x : Int32) : -128 ≤ x.toInt8.toInt32.toInt ∧ x.toInt8.toInt32.toInt < 128 := by
  rw [Int8.toInt_toInt32]
  have h1 := Int8.le_toInt x.toInt8
  have h2 := Int8.toInt_lt x.toInt8
  omega
theorem fb_short_rng (x : Int32) : -32768 ≤ x.toInt16.toInt32.toInt ∧ x.toInt16.toInt32.toInt < 32768 := by
  rw [Int16.toInt_toInt32]
  have h1 := Int16.le_toInt x.toInt16
  have h2 := Int16.toInt_lt x.toInt16
  omega
theorem fb_byte_twice (x : Int32) : x.toInt8.toInt32.toInt8.toInt32 = x.toInt8.toInt32 := fb_byte (fb_byte_rng x).1 (fb_byte_rng x).2
theorem fb_short_twice (x : Int32) : x.toInt16.toInt32.toInt16.toInt32 = x.toInt16.toInt32 := fb_short (fb_short_rng x).1 (fb_short_rng x).2
theorem fb_char {n : Nat} (h : n < 65536) : (nI n).toUInt32.toUInt16.toUInt32.toInt32 = nI n := by
  apply Int32.toBitVec_inj.1
  apply BitVec.eq_of_toNat_eq
  have e1 : (nI n).toBitVec.toNat = n := by
    show (BitVec.ofNat 32 n).toNat = n
    rw [BitVec.toNat_ofNat, Nat.mod_eq_of_lt (by omega)]
  have e2 : ((nI n).toUInt32.toUInt16.toUInt32).toNat = n := by
    rw [UInt16.toNat_toUInt32, UInt32.toNat_toUInt16]
    show (nI n).toBitVec.toNat % 2 ^ 16 = n
    rw [e1, Nat.mod_eq_of_lt (by omega)]
  rw [e1]
  exact e2
end
section
/-! shared pure words -/
theorem t0 : (0 : Int32).toInt = 0 := rfl
theorem t1 : (1 : Int32).toInt = 1 := rfl
theorem t2 : (2 : Int32).toInt = 2 := rfl
theorem tm1 : (-1 : Int32).toInt = -1 := rfl
/-- sums of ints, longs, as the machine has them -/
def smI (f : Nat → Int32) : Nat → Int32
  | 0 => 0
  | n + 1 => smI f n + f n
def smL (f : Nat → Int64) : Nat → Int64
  | 0 => 0
  | n + 1 => smL f n + f n
theorem smI_congr {f g : Nat → Int32} : ∀ {n : Nat}, (∀ i, i < n → f i = g i) → smI f n = smI g n
  | 0, _ => rfl
  | n + 1, h => by rw [smI, smI, smI_congr (fun i hi => h i (by omega)), h n (by omega)]
theorem smL_congr {f g : Nat → Int64} : ∀ {n : Nat}, (∀ i, i < n → f i = g i) → smL f n = smL g n
  | 0, _ => rfl
  | n + 1, h => by rw [smL, smL, smL_congr (fun i hi => h i (by omega)), h n (by omega)]
/-- the first k from a on, within m steps, at which p holds: k, else -1 -/
def fstF (p : Nat → Bool) (a : Nat) : Nat → Int32
  | 0 => -1
  | m + 1 => if p a then nI a else fstF p (a + 1) m
theorem fstF_congr {p q : Nat → Bool} : ∀ {m a : Nat}, (∀ i, a ≤ i → i < a + m → p i = q i) → fstF p a m = fstF q a m
  | 0, _, _ => rfl
  | m + 1, a, h => by
    rw [fstF, fstF, h a (by omega) (by omega), fstF_congr (fun i h1 h2 => h i (by omega) (by omega))]
/-- a row filled ahead of i by g -/
def fil {α : Type} (f g : Nat → α) (i : Nat) : Nat → α := fun j => if j < i then g j else f j
theorem fil_0 {α : Type} (f g : Nat → α) : fil f g 0 = f := by funext j; simp [fil]
theorem fil_in {α : Type} {f g : Nat → α} {i j : Nat} (h : j < i) : fil f g i j = g j := if_pos h
theorem fil_out {α : Type} {f g : Nat → α} {i j : Nat} (h : i ≤ j) : fil f g i j = f j := if_neg (Nat.not_lt.mpr h)
theorem fil_put (f g : Nat → Int32) (i : Nat) : upd (fil f g i) i (g i) = fil f g (i + 1) := by
  funext j
  unfold upd fil
  by_cases h : j = i
  · subst h; simp
  · by_cases h2 : j < i
    · rw [if_neg h, if_pos h2, if_pos (by omega)]
    · rw [if_neg h, if_neg h2, if_neg (by omega)]
theorem fil_putL (f g : Nat → Int64) (i : Nat) : vp_updL (fil f g i) i (g i) = fil f g (i + 1) := by
  funext j
  unfold vp_updL fil
  by_cases h : j = i
  · subst h; simp
  · by_cases h2 : j < i
    · rw [if_neg h, if_pos h2, if_pos (by omega)]
    · rw [if_neg h, if_neg h2, if_neg (by omega)]
def sRL (μ : Mm) (k : Nat) (f : Nat → Int64) : Mm := (μ.1, fun k' => if k' = k then f else μ.2 k')
theorem sR_id (μ : Mm) (k : Nat) : sR μ k (μ.1 k) = μ := by
  unfold sR
  refine Prod.ext ?_ rfl
  funext k'
  by_cases h : k' = k
  · subst h; simp
  · simp [h]
theorem sRL_id (μ : Mm) (k : Nat) : sRL μ k (μ.2 k) = μ := by
  unfold sRL
  refine Prod.ext rfl ?_
  funext k'
  by_cases h : k' = k
  · subst h; simp
  · simp [h]
theorem sI_sR (μ : Mm) (k i : Nat) (f : Nat → Int32) (x : Int32) : sI (sR μ k f) k i x = sR μ k (upd f i x) := by
  unfold sI sR
  refine Prod.ext ?_ rfl
  funext k'
  by_cases h : k' = k
  · subst h; simp
  · simp [h]
theorem sL_sRL (μ : Mm) (k i : Nat) (f : Nat → Int64) (x : Int64) : sL (sRL μ k f) k i x = sRL μ k (vp_updL f i x) := by
  unfold sL sRL
  refine Prod.ext rfl ?_
  funext k'
  by_cases h : k' = k
  · subst h; simp
  · simp [h]
theorem sI_eq (μ : Mm) (k i : Nat) (x : Int32) : sI μ k i x = sR μ k (upd (μ.1 k) i x) := by rw [← sI_sR, sR_id]
theorem sL_eq (μ : Mm) (k i : Nat) (x : Int64) : sL μ k i x = sRL μ k (vp_updL (μ.2 k) i x) := by rw [← sL_sRL, sRL_id]
theorem sR_sR (μ : Mm) (k : Nat) (f g : Nat → Int32) : sR (sR μ k f) k g = sR μ k g := by
  unfold sR
  refine Prod.ext ?_ rfl
  funext k'
  by_cases h : k' = k
  · subst h; simp
  · simp [h]
theorem sR_fil (μ : Mm) (k i : Nat) (f g : Nat → Int32) {x : Int32} (hx : x = g i) : sI (sR μ k (fil f g i)) k i x = sR μ k (fil f g (i + 1)) := by rw [sI_sR, hx, fil_put]
theorem sRL_fil (μ : Mm) (k i : Nat) (f g : Nat → Int64) {x : Int64} (hx : x = g i) : sL (sRL μ k (fil f g i)) k i x = sRL μ k (fil f g (i + 1)) := by rw [sL_sRL, hx, fil_putL]
theorem sR_1 {μ : Mm} {k k' : Nat} {f : Nat → Int32} (h : k' ≠ k) : (sR μ k f).1 k' = μ.1 k' := if_neg h
theorem sI_1 {μ : Mm} {k k' i : Nat} {x : Int32} (h : k' ≠ k) : (sI μ k i x).1 k' = μ.1 k' := if_neg h
theorem sI_same {μ : Mm} {k i : Nat} {x : Int32} : (sI μ k i x).1 k i = x := by rw [sI_at]; simp [upd]
theorem sI_other {μ : Mm} {k i j : Nat} {x : Int32} (h : j ≠ i) : (sI μ k i x).1 k j = μ.1 k j := by rw [sI_at]; simp [upd, h]
/-- places go round -/
noncomputable def wrF (n : Nat) (i : Int32) : Int32 := if i < 0 then i + nI n else if nI n ≤ i then i - nI n else i
theorem nI_sub_toInt {a b : Nat} (ha : a < 2 ^ 30) (hb : b < 2 ^ 30) : (nI a - nI b).toInt = (a : Int) - b := pk_sub_toInt ha hb
theorem wrF_add {n a b : Nat} (hn : n ≤ 60) (ha : a < n) (hb : b < n) : wrF n (nI (a + b)) = nI ((a + b) % n) := by
  unfold wrF
  rw [if_neg (nI_pos (by omega))]
  by_cases h : n ≤ a + b
  · rw [if_pos (nI_le h (by omega)), pk_sub h, Nat.mod_eq_sub_mod h, Nat.mod_eq_of_lt (by omega)]
  · rw [if_neg (nI_ge (by omega) (by omega)), Nat.mod_eq_of_lt (by omega)]
theorem wrF_sub {n a b : Nat} (hn : n ≤ 60) (ha : a < n) (hb : b < n) : wrF n (nI a - nI b) = nI ((a + n - b) % n) := by
  unfold wrF
  by_cases h : a < b
  · rw [if_pos (pk_sneg (by omega) h), Nat.mod_eq_of_lt (by omega)]
    have e : nI a + nI n - nI b = nI (a + n - b) := by rw [nI_add, pk_sub (by omega)]
    rw [← e]
    rw [Int32.sub_eq_add_neg, Int32.sub_eq_add_neg, Int32.add_assoc, Int32.add_assoc, Int32.add_comm (-nI b)]
  · have h' : b ≤ a := by omega
    rw [pk_sub h', if_neg (nI_pos (by omega)), if_neg (nI_ge (by omega) (by omega))]
    rw [show a + n - b = a - b + n by omega, Nat.add_mod_right, Nat.mod_eq_of_lt (by omega)]
theorem nt0 : (nI 0).toInt = 0 := rfl
theorem nt1 : (nI 1).toInt = 1 := rfl
theorem nt2 : (nI 2).toInt = 2 := rfl
theorem nt3 : (nI 3).toInt = 3 := rfl
theorem nt4 : (nI 4).toInt = 4 := rfl
theorem nt5 : (nI 5).toInt = 5 := rfl
theorem nt7 : (nI 7).toInt = 7 := rfl
theorem nt9 : (nI 9).toInt = 9 := rfl
theorem nt10 : (nI 10).toInt = 10 := rfl
theorem nt13 : (nI 13).toInt = 13 := rfl
theorem nt14 : (nI 14).toInt = 14 := rfl
theorem nt30 : (nI 30).toInt = 30 := rfl
theorem nt32 : (nI 32).toInt = 32 := rfl
theorem nt59 : (nI 59).toInt = 59 := rfl
theorem nt60 : (nI 60).toInt = 60 := rfl
theorem nt200 : (nI 200).toInt = 200 := rfl
theorem nt1000 : (nI 1000).toInt = 1000 := rfl
theorem nt1000000 : (nI 1000000).toInt = 1000000 := rfl
theorem nt1073741824 : (nI 1073741824).toInt = 1073741824 := rfl
end
section
/-! HoleMask$Circle, Arrays.fill, Math.floorMod -/
abbrev rmL (d : Nat) : Room := rmd d (32 * d)
theorem c_isRow (μ : Mm) (i : Int32) : Ok mX1_isRow (rmL 0) [.int i] μ (some (.int (bI (¬ i < 0 ∧ i ≤ nI 2))), μ) := by
  refine Ok.of (by decide) (Nat.le_of_ble_eq_true rfl) [some (.int i)] rfl ?_
  refine g_iload_n 0 _ dX1_isRow_0 rfl rfl ?_
  refine g_if_lt 13 dX1_isRow_1 (by decide) (fun h1 => ?_) (fun h1 => ?_)
  · refine g_iconst (nI 0) dX1_isRow_13 rfl ?_
    exact g_ireturn dX1_isRow_14 rfl rfl (by (try unfold bI); (repeat' split) <;> first | rfl | (exfalso; simp only [fa_lt, fa_le, fa_eq, t0, t1, t2, tm1] at *; omega))
  · refine g_iload_n 0 _ dX1_isRow_4 rfl rfl ?_
    refine g_iconst (nI 2) dX1_isRow_5 rfl ?_
    refine g_icmp_gt 13 dX1_isRow_6 (by decide) (fun h6 => ?_) (fun h6 => ?_)
    · refine g_iconst (nI 0) dX1_isRow_13 rfl ?_
      exact g_ireturn dX1_isRow_14 rfl rfl (by (try unfold bI); (repeat' split) <;> first | rfl | (exfalso; simp only [fa_lt, fa_le, fa_eq, t0, t1, t2, tm1] at *; omega))
    · refine g_iconst (nI 1) dX1_isRow_9 rfl ?_
      refine g_goto 14 dX1_isRow_10 (by decide) ?_
      exact g_ireturn dX1_isRow_14 rfl rfl (by (try unfold bI); (repeat' split) <;> first | rfl | (exfalso; simp only [fa_lt, fa_le, fa_eq, t0, t1, t2, tm1] at *; omega))
theorem c_fits (μ : Mm) {w : Nat} (v : Int32) (hw : w < 3) : Ok mX1_fits (rmL 0) [.int (nI w), .int v] μ (some (.int (bI (-(limF w) ≤ v ∧ v ≤ limF w))), μ) := by
  refine Ok.of (by decide) (Nat.le_of_ble_eq_true rfl) [some (.int (nI w)), some (.int v)] rfl ?_
  refine g_iload_n 1 _ dX1_fits_0 rfl rfl ?_
  refine g_limits rfl dX1_fits_1 ?_
  refine g_iload_n 0 _ dX1_fits_4 rfl rfl ?_
  refine g_limload (j := w) (rfl) (by omega) dX1_fits_5 ?_
  refine g_ineg dX1_fits_6 ?_
  refine g_icmp_lt 23 dX1_fits_7 (by decide) (fun h7 => ?_) (fun h7 => ?_)
  · refine g_iconst (nI 0) dX1_fits_23 rfl ?_
    exact g_ireturn dX1_fits_24 rfl rfl (by (try unfold bI); (repeat' split) <;> first | rfl | (exfalso; simp only [fa_lt, fa_le, fa_eq, t0, t1, t2, tm1] at *; omega))
  · refine g_iload_n 1 _ dX1_fits_10 rfl rfl ?_
    refine g_limits rfl dX1_fits_11 ?_
    refine g_iload_n 0 _ dX1_fits_14 rfl rfl ?_
    refine g_limload (j := w) (rfl) (by omega) dX1_fits_15 ?_
    refine g_icmp_gt 23 dX1_fits_16 (by decide) (fun h16 => ?_) (fun h16 => ?_)
    · refine g_iconst (nI 0) dX1_fits_23 rfl ?_
      exact g_ireturn dX1_fits_24 rfl rfl (by (try unfold bI); (repeat' split) <;> first | rfl | (exfalso; simp only [fa_lt, fa_le, fa_eq, t0, t1, t2, tm1] at *; omega))
    · refine g_iconst (nI 1) dX1_fits_19 rfl ?_
      refine g_goto 24 dX1_fits_20 (by decide) ?_
      exact g_ireturn dX1_fits_24 rfl rfl (by (try unfold bI); (repeat' split) <;> first | rfl | (exfalso; simp only [fa_lt, fa_le, fa_eq, t0, t1, t2, tm1] at *; omega))
theorem c_has (μ : Mm) (i : Int32) {n : Nat} (hn : μ.1 1 2 = nI n) : Ok mX1_has (rmL 0) [.ref 1, .int i] μ (some (.int (bI (¬ i < 0 ∧ i < nI n))), μ) := by
  refine Ok.of (by decide) (Nat.le_of_ble_eq_true rfl) [some (.ref 1), some (.int i)] rfl ?_
  refine g_iload_n 1 _ dX1_has_0 rfl rfl ?_
  refine g_if_lt 16 dX1_has_1 (by decide) (fun h1 => ?_) (fun h1 => ?_)
  · refine g_iconst (nI 0) dX1_has_16 rfl ?_
    exact g_ireturn dX1_has_17 rfl rfl (by (try unfold bI); (repeat' split) <;> first | rfl | (exfalso; simp only [fa_lt, fa_le, fa_eq, t0, t1, t2, tm1] at *; omega))
  · refine g_iload_n 1 _ dX1_has_4 rfl rfl ?_
    refine g_aload_n 0 _ dX1_has_5 rfl rfl ?_
    refine gf_X1_20 rfl dX1_has_6 ?_
    refine g_top (w := .int (nI n)) (congrArg Value.int hn) ?_
    refine g_icmp_ge 16 dX1_has_9 (by decide) (fun h9 => ?_) (fun h9 => ?_)
    · refine g_iconst (nI 0) dX1_has_16 rfl ?_
      exact g_ireturn dX1_has_17 rfl rfl (by (try unfold bI); (repeat' split) <;> first | rfl | (exfalso; simp only [fa_lt, fa_le, fa_eq, t0, t1, t2, tm1] at *; omega))
    · refine g_iconst (nI 1) dX1_has_12 rfl ?_
      refine g_goto 17 dX1_has_13 (by decide) ?_
      exact g_ireturn dX1_has_17 rfl rfl (by (try unfold bI); (repeat' split) <;> first | rfl | (exfalso; simp only [fa_lt, fa_le, fa_eq, t0, t1, t2, tm1] at *; omega))
theorem c_wrap (μ : Mm) (i : Int32) {n : Nat} (hn : μ.1 1 2 = nI n) : Ok mX1_wrap (rmL 0) [.ref 1, .int i] μ (some (.int (wrF n i)), μ) := by
  refine Ok.of (by decide) (Nat.le_of_ble_eq_true rfl) [some (.ref 1), some (.int i)] rfl ?_
  refine g_iload_n 1 _ dX1_wrap_0 rfl rfl ?_
  refine g_if_ge 13 dX1_wrap_1 (by decide) (fun h1 => ?_) (fun h1 => ?_)
  · refine g_iload_n 1 _ dX1_wrap_13 rfl rfl ?_
    refine g_aload_n 0 _ dX1_wrap_14 rfl rfl ?_
    refine gf_X1_20 rfl dX1_wrap_15 ?_
    refine g_top (w := .int (nI n)) (congrArg Value.int hn) ?_
    refine g_icmp_lt 30 dX1_wrap_18 (by decide) (fun h18 => ?_) (fun h18 => ?_)
    · refine g_iload_n 1 _ dX1_wrap_30 rfl rfl ?_
      exact g_ireturn dX1_wrap_31 rfl rfl (by (try unfold wrF); (try unfold bI); (repeat' split) <;> first | rfl | (exfalso; simp only [fa_lt, fa_le, fa_eq, t0, t1, t2, tm1] at *; omega))
    · refine g_iload_n 1 _ dX1_wrap_21 rfl rfl ?_
      refine g_aload_n 0 _ dX1_wrap_22 rfl rfl ?_
      refine gf_X1_20 rfl dX1_wrap_23 ?_
      refine g_top (w := .int (nI n)) (congrArg Value.int hn) ?_
      refine g_isub dX1_wrap_26 ?_
      refine g_goto 31 dX1_wrap_27 (by decide) ?_
      exact g_ireturn dX1_wrap_31 rfl rfl (by (try unfold wrF); (try unfold bI); (repeat' split) <;> first | rfl | (exfalso; simp only [fa_lt, fa_le, fa_eq, t0, t1, t2, tm1] at *; omega))
  · refine g_iload_n 1 _ dX1_wrap_4 rfl rfl ?_
    refine g_aload_n 0 _ dX1_wrap_5 rfl rfl ?_
    refine gf_X1_20 rfl dX1_wrap_6 ?_
    refine g_top (w := .int (nI n)) (congrArg Value.int hn) ?_
    refine g_iadd dX1_wrap_9 ?_
    refine g_goto 31 dX1_wrap_10 (by decide) ?_
    exact g_ireturn dX1_wrap_31 rfl rfl (by (try unfold wrF); (try unfold bI); (repeat' split) <;> first | rfl | (exfalso; simp only [fa_lt, fa_le, fa_eq, t0, t1, t2, tm1] at *; omega))
theorem c_get (μ : Mm) {w j : Nat} (hw : w < 3) (hj : j < 60) : Ok mX1_get (rmL 0) [.ref 1, .int (nI w), .int (nI j)] μ (some (.int (μ.1 (7 + w) j)), μ) := by
  refine Ok.of (by decide) (Nat.le_of_ble_eq_true rfl) [some (.ref 1), some (.int (nI w)), some (.int (nI j))] rfl ?_
  refine g_aload_n 0 _ dX1_get_0 rfl rfl ?_
  refine gf_X1_11 rfl dX1_get_1 ?_
  refine g_iload_n 1 _ dX1_get_4 rfl rfl ?_
  refine g_aaload (j := w) isQ_6 (Or.inl rfl) (rfl) (by omega) (by omega) dX1_get_5 ?_
  refine g_iload_n 2 _ dX1_get_6 rfl rfl ?_
  refine g_iaload (j := j) (isI_row (w := w) (by omega)) (rfl) (by omega) (by omega) dX1_get_7 ?_
  exact g_ireturn dX1_get_8 rfl rfl rfl
theorem c_put (μ : Mm) {w j : Nat} (v : Int32) (hw : w < 3) (hj : j < 60) : Ok mX1_put (rmL 0) [.ref 1, .int (nI w), .int (nI j), .int v] μ (none, sI μ (7 + w) j v) := by
  refine Ok.of (by decide) (Nat.le_of_ble_eq_true rfl) [some (.ref 1), some (.int (nI w)), some (.int (nI j)), some (.int v)] rfl ?_
  refine g_aload_n 0 _ dX1_put_0 rfl rfl ?_
  refine gf_X1_11 rfl dX1_put_1 ?_
  refine g_iload_n 1 _ dX1_put_4 rfl rfl ?_
  refine g_aaload (j := w) isQ_6 (Or.inl rfl) (rfl) (by omega) (by omega) dX1_put_5 ?_
  refine g_iload_n 2 _ dX1_put_6 rfl rfl ?_
  refine g_iload_n 3 _ dX1_put_7 rfl rfl ?_
  refine g_iastore (j := j) (isI_row (w := w) (by omega)) (rfl) (by omega) (by omega) dX1_put_8 ?_
  refine g_at 9 rfl ?_
  exact g_return dX1_put_9 rfl rfl
/-! Arrays.fill -/
theorem l_fill {μ : Mm} {k n : Nat} {v : Int32} (hk : isI k n) (hb : n ≤ 1024) : ∀ (m i : Nat), i ≤ n → n < i + m → G mJ7_fill_53178 (rmL 0) (none, sR μ k (fil (μ.1 k) (fun _ => v) n)) (sR μ k (fil (μ.1 k) (fun _ => v) i)) 5 [some (.ref k), some (.int v), some (.int (nI i)), some (.int (nI n))] [] := by
  intro m
  induction m with
  | zero => exact fun i h1 h2 => absurd h2 (by omega)
  | succ m ih =>
    intro i h1 h2
    refine g_iload_n 2 _ dJ7_fill_53178_5 rfl rfl ?_
    refine g_iload_n 3 _ dJ7_fill_53178_6 rfl rfl ?_
    refine g_icmp_geN 20 (by omega) (by omega) dJ7_fill_53178_7 (by decide) (fun h7 => ?_) (fun h7 => ?_)
    · exact g_return dJ7_fill_53178_20 rfl (by rw [show i = n by omega])
    · refine g_aload_n 0 _ dJ7_fill_53178_10 rfl rfl ?_
      refine g_iload_n 2 _ dJ7_fill_53178_11 rfl rfl ?_
      refine g_iload_n 1 _ dJ7_fill_53178_12 rfl rfl ?_
      refine g_iastore (j := i) (hk) (rfl) (by omega) (by omega) dJ7_fill_53178_13 ?_
      refine g_mem (sR_fil μ k i _ (fun _ => v) rfl) ?_
      refine g_iincN [some (.ref k), some (.int v), some (.int (nI (i + 1))), some (.int (nI n))] dJ7_fill_53178_14 rfl (Nat.le_of_ble_eq_true rfl) rfl rfl ?_
      refine g_goto 5 dJ7_fill_53178_17 (by decide) ?_
      exact ih (i + 1) (by omega) (by omega)
theorem c_fill (μ : Mm) {k n : Nat} (v : Int32) (hk : isI k n) (hb : n ≤ 1024) : Ok mJ7_fill_53178 (rmL 0) [.ref k, .int v] μ (none, sR μ k (fil (μ.1 k) (fun _ => v) n)) := by
  refine Ok.of (by decide) (Nat.le_of_ble_eq_true rfl) [some (.ref k), some (.int v), none, none] rfl ?_
  refine g_iconst (nI 0) dJ7_fill_53178_0 rfl ?_
  refine g_istore_n [some (.ref k), some (.int v), some (.int (nI 0)), none] dJ7_fill_53178_1 rfl (Nat.le_of_ble_eq_true rfl) rfl rfl ?_
  refine g_aload_n 0 _ dJ7_fill_53178_2 rfl rfl ?_
  refine g_alen (v := nI n) hk rfl dJ7_fill_53178_3 ?_
  refine g_istore_n [some (.ref k), some (.int v), some (.int (nI 0)), some (.int (nI n))] dJ7_fill_53178_4 rfl (Nat.le_of_ble_eq_true rfl) rfl rfl ?_
  have h := l_fill (μ := μ) (v := v) hk hb (n + 1) 0 (by omega) (by omega)
  rw [fil_0, sR_id] at h
  exact h
/-- all three rows of the ring begin anew -/
def stM (μ : Mm) (p : Int32) : Mm := sR (sR (sR (sI μ 1 2 p) 7 (fil (μ.1 7) (fun _ => 0) 60)) 8 (fil (μ.1 8) (fun _ => 0) 60)) 9 (fil (μ.1 9) (fun _ => 0) 60)
theorem c_start (μ : Mm) (p : Int32) : Ok mX1_start (rmL 1) [.ref 1, .int p] μ (none, stM μ p) := by
  refine Ok.of (by decide) (Nat.le_of_ble_eq_true rfl) [some (.ref 1), some (.int p), none] rfl ?_
  refine g_aload_n 0 _ dX1_start_0 rfl rfl ?_
  refine g_iload_n 1 _ dX1_start_1 rfl rfl ?_
  refine gp_X1_20 rfl dX1_start_2 ?_
  refine g_iconst (nI 0) dX1_start_5 rfl ?_
  refine g_istore_n [some (.ref 1), some (.int p), some (.int (nI 0))] dX1_start_6 rfl (Nat.le_of_ble_eq_true rfl) rfl rfl ?_
  refine g_iload_n 2 _ dX1_start_7 rfl rfl ?_
  refine g_iconst (nI 2) dX1_start_8 rfl ?_
  refine g_at 9 rfl ?_
  refine g_icmp_gtN 28 (by omega) (by omega) dX1_start_9 (by decide) (fun h9 => ?_) (fun h9 => ?_)
  · exact absurd h9 (by omega)
  · refine g_aload_n 0 _ dX1_start_12 rfl rfl ?_
    refine gf_X1_11 rfl dX1_start_13 ?_
    refine g_iload_n 2 _ dX1_start_16 rfl rfl ?_
    refine g_aaload (j := 0) isQ_6 (Or.inl rfl) (rfl) (by omega) (by omega) dX1_start_17 ?_
    refine g_iconst (nI 0) dX1_start_18 rfl ?_
    refine g_backv (g_runS (c_fill (sI μ 1 2 p) _ (isI_row (w := 0) (by decide)) (by decide)) rfl mw_J7_fill_53178 ms_J7_fill_53178 ml_X1_27 ⟨rfl, rfl, Nat.le_of_ble_eq_true rfl, Nat.le_of_ble_eq_true rfl⟩ rfl rfl (Nat.le_of_ble_eq_true rfl) dX1_start_19) ?_
    refine g_iincN [some (.ref 1), some (.int p), some (.int (nI 1))] dX1_start_22 rfl (Nat.le_of_ble_eq_true rfl) rfl rfl ?_
    refine g_at 25 rfl ?_
    refine g_goto 7 dX1_start_25 (by decide) ?_
    refine g_iload_n 2 _ dX1_start_7 rfl rfl ?_
    refine g_iconst (nI 2) dX1_start_8 rfl ?_
    refine g_icmp_gtN 28 (by omega) (by omega) dX1_start_9 (by decide) (fun h9 => ?_) (fun h9 => ?_)
    · exact absurd h9 (by omega)
    · refine g_aload_n 0 _ dX1_start_12 rfl rfl ?_
      refine gf_X1_11 rfl dX1_start_13 ?_
      refine g_iload_n 2 _ dX1_start_16 rfl rfl ?_
      refine g_aaload (j := 1) isQ_6 (Or.inl rfl) (rfl) (by omega) (by omega) dX1_start_17 ?_
      refine g_iconst (nI 0) dX1_start_18 rfl ?_
      refine g_backv (g_runS (c_fill (sR (sI μ 1 2 p) 7 (fil ((sI μ 1 2 p).1 7) (fun _ => 0) 60)) _ (isI_row (w := 1) (by decide)) (by decide)) rfl mw_J7_fill_53178 ms_J7_fill_53178 ml_X1_27 ⟨rfl, rfl, Nat.le_of_ble_eq_true rfl, Nat.le_of_ble_eq_true rfl⟩ rfl rfl (Nat.le_of_ble_eq_true rfl) dX1_start_19) ?_
      refine g_iincN [some (.ref 1), some (.int p), some (.int (nI 2))] dX1_start_22 rfl (Nat.le_of_ble_eq_true rfl) rfl rfl ?_
      refine g_at 25 rfl ?_
      refine g_goto 7 dX1_start_25 (by decide) ?_
      refine g_iload_n 2 _ dX1_start_7 rfl rfl ?_
      refine g_iconst (nI 2) dX1_start_8 rfl ?_
      refine g_icmp_gtN 28 (by omega) (by omega) dX1_start_9 (by decide) (fun h9 => ?_) (fun h9 => ?_)
      · exact absurd h9 (by omega)
      · refine g_aload_n 0 _ dX1_start_12 rfl rfl ?_
        refine gf_X1_11 rfl dX1_start_13 ?_
        refine g_iload_n 2 _ dX1_start_16 rfl rfl ?_
        refine g_aaload (j := 2) isQ_6 (Or.inl rfl) (rfl) (by omega) (by omega) dX1_start_17 ?_
        refine g_iconst (nI 0) dX1_start_18 rfl ?_
        refine g_backv (g_runS (c_fill (sR (sR (sI μ 1 2 p) 7 (fil ((sI μ 1 2 p).1 7) (fun _ => 0) 60)) 8 (fil ((sR (sI μ 1 2 p) 7 (fil ((sI μ 1 2 p).1 7) (fun _ => 0) 60)).1 8) (fun _ => 0) 60)) _ (isI_row (w := 2) (by decide)) (by decide)) rfl mw_J7_fill_53178 ms_J7_fill_53178 ml_X1_27 ⟨rfl, rfl, Nat.le_of_ble_eq_true rfl, Nat.le_of_ble_eq_true rfl⟩ rfl rfl (Nat.le_of_ble_eq_true rfl) dX1_start_19) ?_
        refine g_iincN [some (.ref 1), some (.int p), some (.int (nI 3))] dX1_start_22 rfl (Nat.le_of_ble_eq_true rfl) rfl rfl ?_
        refine g_at 25 rfl ?_
        refine g_goto 7 dX1_start_25 (by decide) ?_
        refine g_iload_n 2 _ dX1_start_7 rfl rfl ?_
        refine g_iconst (nI 2) dX1_start_8 rfl ?_
        refine g_icmp_gtN 28 (by omega) (by omega) dX1_start_9 (by decide) (fun h9 => ?_) (fun h9 => ?_)
        · exact g_return dX1_start_28 rfl rfl
        · exact absurd h9 (by omega)
theorem c_tally_l {μ : Mm} {w n : Nat} {v : Int32} (hn : μ.1 1 2 = nI n) (h60 : n ≤ 60) (hw : w < 3) : ∀ (m i c : Nat), i ≤ n → n < i + m → c = fa_cnt (fun i => decide (μ.1 (7 + w) i = v)) i → G mX1_tally (rmL 0) (some (.int (nI (fa_cnt (fun i => decide (μ.1 (7 + w) i = v)) n))), μ) μ 5 [some (.ref 1), some (.int (nI w)), some (.int v), some (.int (nI c)), some (.int (nI i))] [] := by
  intro m
  induction m with
  | zero => exact fun i c h1 h2 => absurd h2 (by omega)
  | succ m ih =>
    intro i c h1 h2 hc
    refine g_iload _ dX1_tally_5 rfl ?_
    refine g_aload_n 0 _ dX1_tally_7 rfl rfl ?_
    refine gf_X1_20 rfl dX1_tally_8 ?_
    refine g_top (w := .int (nI n)) (congrArg Value.int hn) ?_
    refine g_icmp_geN 36 (by omega) (by omega) dX1_tally_11 (by decide) (fun h11 => ?_) (fun h11 => ?_)
    · refine g_iload_n 3 _ dX1_tally_36 rfl rfl ?_
      exact g_ireturn dX1_tally_37 rfl rfl (by rw [hc, show i = n by omega])
    · refine g_aload_n 0 _ dX1_tally_14 rfl rfl ?_
      refine gf_X1_11 rfl dX1_tally_15 ?_
      refine g_iload_n 1 _ dX1_tally_18 rfl rfl ?_
      refine g_aaload (j := w) isQ_6 (Or.inl rfl) (rfl) (by omega) (by omega) dX1_tally_19 ?_
      refine g_iload _ dX1_tally_20 rfl ?_
      refine g_iaload (j := i) (isI_row (w := w) (by omega)) (rfl) (by omega) (by omega) dX1_tally_22 ?_
      refine g_iload_n 2 _ dX1_tally_23 rfl rfl ?_
      refine g_at 24 rfl ?_
      refine g_icmp_ne 30 dX1_tally_24 (by decide) (fun h24 => ?_) (fun h24 => ?_)
      · refine g_iincN [some (.ref 1), some (.int (nI w)), some (.int v), some (.int (nI c)), some (.int (nI (i + 1)))] dX1_tally_30 rfl (Nat.le_of_ble_eq_true rfl) rfl rfl ?_
        refine g_goto 5 dX1_tally_33 (by decide) ?_
        exact ih (i + 1) _ (by omega) (by omega) (by simp_all [fa_cnt])
      · refine g_iincN [some (.ref 1), some (.int (nI w)), some (.int v), some (.int (nI (c + 1))), some (.int (nI i))] dX1_tally_27 rfl (Nat.le_of_ble_eq_true rfl) rfl rfl ?_
        refine g_iincN [some (.ref 1), some (.int (nI w)), some (.int v), some (.int (nI (c + 1))), some (.int (nI (i + 1)))] dX1_tally_30 rfl (Nat.le_of_ble_eq_true rfl) rfl rfl ?_
        refine g_goto 5 dX1_tally_33 (by decide) ?_
        exact ih (i + 1) _ (by omega) (by omega) (by simp_all [fa_cnt])
theorem c_tally (μ : Mm) {w n : Nat} (v : Int32) (hn : μ.1 1 2 = nI n) (h60 : n ≤ 60) (hw : w < 3) : Ok mX1_tally (rmL 0) [.ref 1, .int (nI w), .int v] μ (some (.int (nI (fa_cnt (fun i => decide (μ.1 (7 + w) i = v)) n))), μ) := by
  refine Ok.of (by decide) (Nat.le_of_ble_eq_true rfl) [some (.ref 1), some (.int (nI w)), some (.int v), none, none] rfl ?_
  refine g_iconst (nI 0) dX1_tally_0 rfl ?_
  refine g_istore_n [some (.ref 1), some (.int (nI w)), some (.int v), some (.int (nI 0)), none] dX1_tally_1 rfl (Nat.le_of_ble_eq_true rfl) rfl rfl ?_
  refine g_iconst (nI 0) dX1_tally_2 rfl ?_
  refine g_istore [some (.ref 1), some (.int (nI w)), some (.int v), some (.int (nI 0)), some (.int (nI 0))] dX1_tally_3 (Nat.le_of_ble_eq_true rfl) rfl rfl ?_
  exact c_tally_l hn h60 hw (n + 1) 0 0 (by omega) (by omega) rfl
theorem c_share (μ : Mm) {a s n : Nat} (hn : μ.1 1 2 = nI n) (h60 : n ≤ 60) (ha : a < n) (hs : s < n) : Ok mX1_share (rmL 1) [.ref 1, .int (nI a), .int (nI s)] μ (some (.int (μ.1 7 ((a + n - s) % n))), μ) := by
  have hm : (a + n - s) % n < n := Nat.mod_lt _ (by omega)
  refine Ok.of (by decide) (Nat.le_of_ble_eq_true rfl) [some (.ref 1), some (.int (nI a)), some (.int (nI s))] rfl ?_
  refine g_aload_n 0 _ dX1_share_0 rfl rfl ?_
  refine gf_X1_11 rfl dX1_share_1 ?_
  refine g_iconst (nI 0) dX1_share_4 rfl ?_
  refine g_aaload (j := 0) isQ_6 (Or.inl rfl) (rfl) (by omega) (by omega) dX1_share_5 ?_
  refine g_aload_n 0 _ dX1_share_6 rfl rfl ?_
  refine g_iload_n 1 _ dX1_share_7 rfl rfl ?_
  refine g_iload_n 2 _ dX1_share_8 rfl rfl ?_
  refine g_at 9 rfl ?_
  refine g_isub dX1_share_9 ?_
  refine g_backi (g_runV ((c_wrap μ _ hn).to (by rw [wrF_sub h60 ha hs])) rfl mw_X1_wrap mi_X1_wrap ml_X1_33 isO_1 ⟨rfl, rfl, Nat.le_of_ble_eq_true rfl, Nat.le_of_ble_eq_true rfl⟩ rfl rfl (Nat.le_of_ble_eq_true rfl) dX1_share_10) ?_
  refine g_iaload (j := (a + n - s) % n) (isI_row (w := 0) (by decide)) (rfl) (by omega) (by omega) dX1_share_13 ?_
  exact g_ireturn dX1_share_14 rfl rfl rfl
/-- what is seen through the mask -/
def thr (f g : Nat → Int32) (n s : Nat) : Nat → Int32 := smI (fun i => f i * g ((s + i) % n))
theorem c_thr_l {μ : Mm} {k s n : Nat} (hn : μ.1 1 2 = nI n) (h60 : n ≤ 60) (hs : s < n) (hk : isI k 60) : ∀ (m i : Nat) (c : Int32), i ≤ n → n < i + m → c = thr (μ.1 7) (μ.1 k) n s i → G mX1_throughMask (rmL 1) (some (.int (thr (μ.1 7) (μ.1 k) n s n)), μ) μ 5 [some (.ref 1), some (.ref k), some (.int (nI s)), some (.int c), some (.int (nI i))] [] := by
  intro m
  induction m with
  | zero => exact fun i c h1 h2 => absurd h2 (by omega)
  | succ m ih =>
    intro i c h1 h2 hc
    have hm : (s + i) % n < n := Nat.mod_lt _ (by omega)
    refine g_iload _ dX1_throughMask_5 rfl ?_
    refine g_aload_n 0 _ dX1_throughMask_7 rfl rfl ?_
    refine gf_X1_20 rfl dX1_throughMask_8 ?_
    refine g_top (w := .int (nI n)) (congrArg Value.int hn) ?_
    refine g_icmp_geN 43 (by omega) (by omega) dX1_throughMask_11 (by decide) (fun h11 => ?_) (fun h11 => ?_)
    · refine g_iload_n 3 _ dX1_throughMask_43 rfl rfl ?_
      exact g_ireturn dX1_throughMask_44 rfl rfl (by rw [hc, show i = n by omega])
    · refine g_iload_n 3 _ dX1_throughMask_14 rfl rfl ?_
      refine g_aload_n 0 _ dX1_throughMask_15 rfl rfl ?_
      refine gf_X1_11 rfl dX1_throughMask_16 ?_
      refine g_iconst (nI 0) dX1_throughMask_19 rfl ?_
      refine g_aaload (j := 0) isQ_6 (Or.inl rfl) (rfl) (by omega) (by omega) dX1_throughMask_20 ?_
      refine g_iload _ dX1_throughMask_21 rfl ?_
      refine g_iaload (j := i) (isI_row (w := 0) (by decide)) (rfl) (by omega) (by omega) dX1_throughMask_23 ?_
      refine g_at 24 rfl ?_
      refine g_aload_n 1 _ dX1_throughMask_24 rfl rfl ?_
      refine g_aload_n 0 _ dX1_throughMask_25 rfl rfl ?_
      refine g_iload_n 2 _ dX1_throughMask_26 rfl rfl ?_
      refine g_iload _ dX1_throughMask_27 rfl ?_
      refine g_iaddN dX1_throughMask_29 ?_
      refine g_backi (g_runV ((c_wrap μ _ hn).to (by rw [wrF_add h60 hs (by omega)])) rfl mw_X1_wrap mi_X1_wrap ml_X1_33 isO_1 ⟨rfl, rfl, Nat.le_of_ble_eq_true rfl, Nat.le_of_ble_eq_true rfl⟩ rfl rfl (Nat.le_of_ble_eq_true rfl) dX1_throughMask_30) ?_
      refine g_iaload (j := (s + i) % n) (hk) (rfl) (by omega) (by omega) dX1_throughMask_33 ?_
      refine g_imul dX1_throughMask_34 ?_
      refine g_at 35 rfl ?_
      refine g_iadd dX1_throughMask_35 ?_
      refine g_istore_n [some (.ref 1), some (.ref k), some (.int (nI s)), some (.int (c + ((μ.1 7 i) * (μ.1 k ((s + i) % n))))), some (.int (nI i))] dX1_throughMask_36 rfl (Nat.le_of_ble_eq_true rfl) rfl rfl ?_
      refine g_iincN [some (.ref 1), some (.ref k), some (.int (nI s)), some (.int (c + ((μ.1 7 i) * (μ.1 k ((s + i) % n))))), some (.int (nI (i + 1)))] dX1_throughMask_37 rfl (Nat.le_of_ble_eq_true rfl) rfl rfl ?_
      refine g_goto 5 dX1_throughMask_40 (by decide) ?_
      exact ih (i + 1) _ (by omega) (by omega) (by rw [hc]; rfl)
theorem c_thr (μ : Mm) {k s n : Nat} (hn : μ.1 1 2 = nI n) (h60 : n ≤ 60) (hs : s < n) (hk : isI k 60) : Ok mX1_throughMask (rmL 1) [.ref 1, .ref k, .int (nI s)] μ (some (.int (thr (μ.1 7) (μ.1 k) n s n)), μ) := by
  refine Ok.of (by decide) (Nat.le_of_ble_eq_true rfl) [some (.ref 1), some (.ref k), some (.int (nI s)), none, none] rfl ?_
  refine g_iconst (nI 0) dX1_throughMask_0 rfl ?_
  refine g_istore_n [some (.ref 1), some (.ref k), some (.int (nI s)), some (.int (nI 0)), none] dX1_throughMask_1 rfl (Nat.le_of_ble_eq_true rfl) rfl rfl ?_
  refine g_iconst (nI 0) dX1_throughMask_2 rfl ?_
  refine g_istore [some (.ref 1), some (.ref k), some (.int (nI s)), some (.int (nI 0)), some (.int (nI 0))] dX1_throughMask_3 (Nat.le_of_ble_eq_true rfl) rfl rfl ?_
  exact c_thr_l hn h60 hs hk (n + 1) 0 _ (by omega) (by omega) rfl
theorem c_shadowAt (μ : Mm) {s n : Nat} (hn : μ.1 1 2 = nI n) (h60 : n ≤ 60) (hs : s < n) : Ok mX1_shadowAt (rmL 2) [.ref 1, .int (nI s)] μ (some (.int (thr (μ.1 7) (μ.1 8) n s n)), μ) := by
  refine Ok.of (by decide) (Nat.le_of_ble_eq_true rfl) [some (.ref 1), some (.int (nI s))] rfl ?_
  refine g_aload_n 0 _ dX1_shadowAt_0 rfl rfl ?_
  refine g_aload_n 0 _ dX1_shadowAt_1 rfl rfl ?_
  refine gf_X1_11 rfl dX1_shadowAt_2 ?_
  refine g_iconst (nI 1) dX1_shadowAt_5 rfl ?_
  refine g_aaload (j := 1) isQ_6 (Or.inl rfl) (rfl) (by omega) (by omega) dX1_shadowAt_6 ?_
  refine g_iload_n 1 _ dX1_shadowAt_7 rfl rfl ?_
  refine g_backi (g_runV (c_thr μ hn h60 hs (isI_row (w := 1) (by decide))) rfl mw_X1_throughMask mi_X1_throughMask ml_X1_37 isO_1 ⟨rfl, rfl, Nat.le_of_ble_eq_true rfl, Nat.le_of_ble_eq_true rfl⟩ rfl rfl (Nat.le_of_ble_eq_true rfl) dX1_shadowAt_8) ?_
  refine g_at 11 rfl ?_
  exact g_ireturn dX1_shadowAt_11 rfl rfl rfl
theorem c_meetsAt (μ : Mm) {s n : Nat} (hn : μ.1 1 2 = nI n) (h60 : n ≤ 60) (hs : s < n) : Ok mX1_meetsAt (rmL 2) [.ref 1, .int (nI s)] μ (some (.int (thr (μ.1 7) (μ.1 7) n s n)), μ) := by
  refine Ok.of (by decide) (Nat.le_of_ble_eq_true rfl) [some (.ref 1), some (.int (nI s))] rfl ?_
  refine g_aload_n 0 _ dX1_meetsAt_0 rfl rfl ?_
  refine g_aload_n 0 _ dX1_meetsAt_1 rfl rfl ?_
  refine gf_X1_11 rfl dX1_meetsAt_2 ?_
  refine g_iconst (nI 0) dX1_meetsAt_5 rfl ?_
  refine g_aaload (j := 0) isQ_6 (Or.inl rfl) (rfl) (by omega) (by omega) dX1_meetsAt_6 ?_
  refine g_iload_n 1 _ dX1_meetsAt_7 rfl rfl ?_
  refine g_backi (g_runV (c_thr μ hn h60 hs (isI_row (w := 0) (by decide))) rfl mw_X1_throughMask mi_X1_throughMask ml_X1_37 isO_1 ⟨rfl, rfl, Nat.le_of_ble_eq_true rfl, Nat.le_of_ble_eq_true rfl⟩ rfl rfl (Nat.le_of_ble_eq_true rfl) dX1_meetsAt_8) ?_
  refine g_at 11 rfl ?_
  exact g_ireturn dX1_meetsAt_11 rfl rfl rfl
/-- the first k at which the mask meets itself otherwise than at 1 -/
def offF (f : Nat → Int32) (n : Nat) : Int32 := fstF (fun k => decide (thr f f n k n ≠ thr f f n 1 n)) 2 (n - 2)
theorem c_firstOff_l {μ : Mm} {n : Nat} (hn : μ.1 1 2 = nI n) (h60 : n ≤ 60) (r : Int32) : ∀ (m k : Nat), 2 ≤ k ∧ k ≤ 62 → n - k < m → r = fstF (fun k => decide (thr (μ.1 7) (μ.1 7) n k n ≠ thr (μ.1 7) (μ.1 7) n 1 n)) k (n - k) → G mX1_firstOff (rmL 3) (some (.int r), μ) μ 2 [some (.ref 1), some (.int (nI k))] [] := by
  intro m
  induction m with
  | zero => exact fun k h1 h2 => absurd h2 (by omega)
  | succ m ih =>
    intro k h1 h2 hr
    by_cases hk : k < n
    · rw [show n - k = (n - (k + 1)) + 1 by omega, fstF] at hr
      refine g_iload_n 1 _ dX1_firstOff_2 rfl rfl ?_
      refine g_aload_n 0 _ dX1_firstOff_3 rfl rfl ?_
      refine gf_X1_20 rfl dX1_firstOff_4 ?_
      refine g_top (w := .int (nI n)) (congrArg Value.int hn) ?_
      refine g_icmp_geN 31 (by omega) (by omega) dX1_firstOff_7 (by decide) (fun h7 => ?_) (fun h7 => ?_)
      · exact absurd h7 (by omega)
      · refine g_aload_n 0 _ dX1_firstOff_10 rfl rfl ?_
        refine g_iload_n 1 _ dX1_firstOff_11 rfl rfl ?_
        refine g_backi (g_runV (c_meetsAt μ hn h60 hk) rfl mw_X1_meetsAt mi_X1_meetsAt ml_X1_41 isO_1 ⟨rfl, rfl, Nat.le_of_ble_eq_true rfl, Nat.le_of_ble_eq_true rfl⟩ rfl rfl (Nat.le_of_ble_eq_true rfl) dX1_firstOff_12) ?_
        refine g_aload_n 0 _ dX1_firstOff_15 rfl rfl ?_
        refine g_iconst (nI 1) dX1_firstOff_16 rfl ?_
        refine g_backi (g_runV (c_meetsAt μ hn h60 (s := 1) (by omega)) rfl mw_X1_meetsAt mi_X1_meetsAt ml_X1_41 isO_1 ⟨rfl, rfl, Nat.le_of_ble_eq_true rfl, Nat.le_of_ble_eq_true rfl⟩ rfl rfl (Nat.le_of_ble_eq_true rfl) dX1_firstOff_17) ?_
        refine g_icmp_eq 25 dX1_firstOff_20 (by decide) (fun h20 => ?_) (fun h20 => ?_)
        · refine g_iincN [some (.ref 1), some (.int (nI (k + 1)))] dX1_firstOff_25 rfl (Nat.le_of_ble_eq_true rfl) rfl rfl ?_
          refine g_goto 2 dX1_firstOff_28 (by decide) ?_
          exact ih (k + 1) (by omega) (by omega) (by rw [hr]; simp [h20])
        · refine g_iload_n 1 _ dX1_firstOff_23 rfl rfl ?_
          exact g_ireturn dX1_firstOff_24 rfl rfl (by rw [hr]; simp [h20])
    · rw [show n - k = 0 by omega, fstF] at hr
      refine g_iload_n 1 _ dX1_firstOff_2 rfl rfl ?_
      refine g_aload_n 0 _ dX1_firstOff_3 rfl rfl ?_
      refine gf_X1_20 rfl dX1_firstOff_4 ?_
      refine g_top (w := .int (nI n)) (congrArg Value.int hn) ?_
      refine g_icmp_geN 31 (by omega) (by omega) dX1_firstOff_7 (by decide) (fun h7 => ?_) (fun h7 => ?_)
      · refine g_iconst (-1) dX1_firstOff_31 rfl ?_
        exact g_ireturn dX1_firstOff_32 rfl rfl (by rw [hr])
      · exact absurd h7 (by omega)
theorem c_firstOff (μ : Mm) {n : Nat} (hn : μ.1 1 2 = nI n) (h60 : n ≤ 60) : Ok mX1_firstOff (rmL 3) [.ref 1] μ (some (.int (offF (μ.1 7) n)), μ) := by
  refine Ok.of (by decide) (Nat.le_of_ble_eq_true rfl) [some (.ref 1), none] rfl ?_
  refine g_iconst (nI 2) dX1_firstOff_0 rfl ?_
  refine g_istore_n [some (.ref 1), some (.int (nI 2))] dX1_firstOff_1 rfl (Nat.le_of_ble_eq_true rfl) rfl rfl ?_
  exact c_firstOff_l hn h60 _ (n + 1) 2 (by omega) (by omega) rfl
end
section
/-! HoleMask$Paper, the small methods of HoleMask, Math.floorMod, Circle.turnMask -/
/-- k by n, going round -/
def modN (k : Int32) (n : Nat) : Nat := (k.toInt % (n : Int)).toNat
theorem modN_lt {k : Int32} {n : Nat} (h : 0 < n) : modN k n < n := by
  have := Int.emod_lt_of_pos k.toInt (show (0 : Int) < n by omega)
  unfold modN; omega
theorem c_refuses0 (μ : Mm) : Ok mX5_refuses (rmL 0) [.ref 0, .int (nI 0)] μ (some (.int (nI 0)), sI μ 0 5 0) := by
  refine Ok.of (by decide) (Nat.le_of_ble_eq_true rfl) [some (.ref 0), some (.int (nI 0))] rfl ?_
  refine g_aload_n 0 _ dX5_refuses_0 rfl rfl ?_
  refine g_iload_n 1 _ dX5_refuses_1 rfl rfl ?_
  refine gp_X5_44 rfl dX5_refuses_2 ?_
  refine g_iload_n 1 _ dX5_refuses_5 rfl rfl ?_
  refine g_if_eqN 13 (by omega) dX5_refuses_6 (by decide) (fun h6 => ?_) (fun h6 => ?_)
  · refine g_iconst (nI 0) dX5_refuses_13 rfl ?_
    exact g_ireturn dX5_refuses_14 rfl rfl rfl
  · exact absurd h6 (by omega)
theorem c_refuses1 (μ : Mm) {f : Int32} (hf : f ≠ 0) : Ok mX5_refuses (rmL 0) [.ref 0, .int f] μ (some (.int (nI 1)), sI μ 0 5 f) := by
  refine Ok.of (by decide) (Nat.le_of_ble_eq_true rfl) [some (.ref 0), some (.int f)] rfl ?_
  refine g_aload_n 0 _ dX5_refuses_0 rfl rfl ?_
  refine g_iload_n 1 _ dX5_refuses_1 rfl rfl ?_
  refine gp_X5_44 rfl dX5_refuses_2 ?_
  refine g_iload_n 1 _ dX5_refuses_5 rfl rfl ?_
  refine g_if_eq 13 dX5_refuses_6 (by decide) (fun h6 => ?_) (fun h6 => ?_)
  · exact absurd h6 hf
  · refine g_iconst (nI 1) dX5_refuses_9 rfl ?_
    refine g_goto 14 dX5_refuses_10 (by decide) ?_
    exact g_ireturn dX5_refuses_14 rfl rfl rfl
theorem c_startRing (μ : Mm) (p : Int32) : Ok mX5_startRing (rmL 2) [.ref 0, .int p] μ (none, sI (stM μ p) 3 4 0) := by
  refine Ok.of (by decide) (Nat.le_of_ble_eq_true rfl) [some (.ref 0), some (.int p)] rfl ?_
  refine g_aload_n 0 _ dX5_startRing_0 rfl rfl ?_
  refine gf_X5_10 rfl dX5_startRing_1 ?_
  refine g_iload_n 1 _ dX5_startRing_4 rfl rfl ?_
  refine g_backv (g_runVN (c_start μ p) rfl mw_X1_start mi_X1_start mn_X5_227 isO_1 ⟨rfl, rfl, Nat.le_of_ble_eq_true rfl, Nat.le_of_ble_eq_true rfl⟩ rfl rfl (Nat.le_of_ble_eq_true rfl) dX5_startRing_5) ?_
  refine g_aload_n 0 _ dX5_startRing_8 rfl rfl ?_
  refine gf_X5_26 rfl dX5_startRing_9 ?_
  refine g_iconst (nI 0) dX5_startRing_12 rfl ?_
  refine g_at 13 rfl ?_
  refine gp_X5_138 rfl rfl rfl dX5_startRing_13 ?_
  exact g_return dX5_startRing_16 rfl rfl
theorem c_forget0 (μ : Mm) : Ok mX5_forgetBackOf (rmL 0) [.ref 0, .int (nI 0)] μ (none, sI μ 3 4 0) := by
  refine Ok.of (by decide) (Nat.le_of_ble_eq_true rfl) [some (.ref 0), some (.int (nI 0))] rfl ?_
  refine g_iload_n 1 _ dX5_forgetBackOf_0 rfl rfl ?_
  refine g_if_neN 12 (by omega) dX5_forgetBackOf_1 (by decide) (fun h1 => ?_) (fun h1 => ?_)
  · exact absurd h1 (by omega)
  · refine g_aload_n 0 _ dX5_forgetBackOf_4 rfl rfl ?_
    refine gf_X5_26 rfl dX5_forgetBackOf_5 ?_
    refine g_iconst (nI 0) dX5_forgetBackOf_8 rfl ?_
    refine gp_X5_138 rfl rfl rfl dX5_forgetBackOf_9 ?_
    exact g_return dX5_forgetBackOf_12 rfl rfl
theorem c_forget1 (μ : Mm) {w : Nat} (hw : 0 < w) (hw2 : w < 3) : Ok mX5_forgetBackOf (rmL 0) [.ref 0, .int (nI w)] μ (none, μ) := by
  refine Ok.of (by decide) (Nat.le_of_ble_eq_true rfl) [some (.ref 0), some (.int (nI w))] rfl ?_
  refine g_iload_n 1 _ dX5_forgetBackOf_0 rfl rfl ?_
  refine g_if_neN 12 (by omega) dX5_forgetBackOf_1 (by decide) (fun h1 => ?_) (fun h1 => ?_)
  · exact g_return dX5_forgetBackOf_12 rfl rfl
  · exact absurd h1 (by omega)
def shF (k m : Int32) : Int32 := if k < 0 ∨ 3 < k then 1 else if k = 3 then 0 else if 60 < m then 1 else if m < 0 then 4 else 0
theorem c_sheetFault (μ : Mm) (k m : Int32) : Ok mX5_sheetFault (rmL 0) [.int k, .int m] μ (some (.int (shF k m)), μ) := by
  refine Ok.of (by decide) (Nat.le_of_ble_eq_true rfl) [some (.int k), some (.int m)] rfl ?_
  have e3 : (nI 3).toInt = 3 := rfl
  have e60 : (nI 60).toInt = 60 := rfl
  have f3 : (3 : Int32).toInt = 3 := rfl
  have f60 : (60 : Int32).toInt = 60 := rfl
  refine g_iload_n 0 _ dX5_sheetFault_0 rfl rfl ?_
  refine g_if_lt 9 dX5_sheetFault_1 (by decide) (fun h1 => ?_) (fun h1 => ?_)
  · refine g_iconst (nI 1) dX5_sheetFault_9 rfl ?_
    exact g_ireturn dX5_sheetFault_10 rfl rfl (by (try unfold shF); (try unfold bI); (repeat' split) <;> first | rfl | (exfalso; simp only [ne_eq, fa_lt, fa_le, fa_eq, t0, t1, t2, tm1] at *; omega))
  · refine g_iload_n 0 _ dX5_sheetFault_4 rfl rfl ?_
    refine g_iconst (nI 3) dX5_sheetFault_5 rfl ?_
    refine g_icmp_le 11 dX5_sheetFault_6 (by decide) (fun h6 => ?_) (fun h6 => ?_)
    · refine g_iload_n 0 _ dX5_sheetFault_11 rfl rfl ?_
      refine g_iconst (nI 3) dX5_sheetFault_12 rfl ?_
      refine g_icmp_ne 18 dX5_sheetFault_13 (by decide) (fun h13 => ?_) (fun h13 => ?_)
      · refine g_iload_n 1 _ dX5_sheetFault_18 rfl rfl ?_
        refine g_bipush (nI 60) dX5_sheetFault_19 rfl ?_
        refine g_icmp_le 26 dX5_sheetFault_21 (by decide) (fun h21 => ?_) (fun h21 => ?_)
        · refine g_iload_n 1 _ dX5_sheetFault_26 rfl rfl ?_
          refine g_if_ge 34 dX5_sheetFault_27 (by decide) (fun h27 => ?_) (fun h27 => ?_)
          · refine g_iconst (nI 0) dX5_sheetFault_34 rfl ?_
            exact g_ireturn dX5_sheetFault_35 rfl rfl (by (try unfold shF); (try unfold bI); (repeat' split) <;> first | rfl | (exfalso; simp only [ne_eq, fa_lt, fa_le, fa_eq, t0, t1, t2, tm1] at *; omega))
          · refine g_iconst (nI 4) dX5_sheetFault_30 rfl ?_
            refine g_goto 35 dX5_sheetFault_31 (by decide) ?_
            exact g_ireturn dX5_sheetFault_35 rfl rfl (by (try unfold shF); (try unfold bI); (repeat' split) <;> first | rfl | (exfalso; simp only [ne_eq, fa_lt, fa_le, fa_eq, t0, t1, t2, tm1] at *; omega))
        · refine g_iconst (nI 1) dX5_sheetFault_24 rfl ?_
          exact g_ireturn dX5_sheetFault_25 rfl rfl (by (try unfold shF); (try unfold bI); (repeat' split) <;> first | rfl | (exfalso; simp only [ne_eq, fa_lt, fa_le, fa_eq, t0, t1, t2, tm1] at *; omega))
      · refine g_iconst (nI 0) dX5_sheetFault_16 rfl ?_
        exact g_ireturn dX5_sheetFault_17 rfl rfl (by (try unfold shF); (try unfold bI); (repeat' split) <;> first | rfl | (exfalso; simp only [ne_eq, fa_lt, fa_le, fa_eq, t0, t1, t2, tm1] at *; omega))
    · refine g_iconst (nI 1) dX5_sheetFault_9 rfl ?_
      exact g_ireturn dX5_sheetFault_10 rfl rfl (by (try unfold shF); (try unfold bI); (repeat' split) <;> first | rfl | (exfalso; simp only [ne_eq, fa_lt, fa_le, fa_eq, t0, t1, t2, tm1] at *; omega))
theorem c_smallRing (μ : Mm) {n : Nat} (hn : μ.1 1 2 = nI n) (h60 : n ≤ 60) : Ok mX5_smallRingFault (rmL 0) [.ref 0] μ (some (.int (if 14 < n then nI 1 else nI 0)), μ) := by
  refine Ok.of (by decide) (Nat.le_of_ble_eq_true rfl) [some (.ref 0)] rfl ?_
  refine g_aload_n 0 _ dX5_smallRingFault_0 rfl rfl ?_
  refine gf_X5_10 rfl dX5_smallRingFault_1 ?_
  refine gf_X5_77 rfl dX5_smallRingFault_4 ?_
  refine g_top (w := .int (nI n)) (congrArg Value.int hn) ?_
  refine g_bipush (nI 14) dX5_smallRingFault_7 rfl ?_
  refine g_icmp_leN 16 (by omega) (by omega) dX5_smallRingFault_9 (by decide) (fun h9 => ?_) (fun h9 => ?_)
  · refine g_iconst (nI 0) dX5_smallRingFault_16 rfl ?_
    exact g_ireturn dX5_smallRingFault_17 rfl rfl (by split <;> first | rfl | (exfalso; omega))
  · refine g_iconst (nI 1) dX5_smallRingFault_12 rfl ?_
    refine g_goto 17 dX5_smallRingFault_13 (by decide) ?_
    exact g_ireturn dX5_smallRingFault_17 rfl rfl (by split <;> first | rfl | (exfalso; omega))
theorem c_take (μ : Mm) (k m : Int32) : Ok mX3_take (rmL 1) [.ref 2, .int k, .int m] μ (none, sR (sI (sI μ 2 1 k) 2 2 m) 11 (fil (μ.1 11) (fun _ => 0) 60)) := by
  refine Ok.of (by decide) (Nat.le_of_ble_eq_true rfl) [some (.ref 2), some (.int k), some (.int m)] rfl ?_
  refine g_aload_n 0 _ dX3_take_0 rfl rfl ?_
  refine g_iload_n 1 _ dX3_take_1 rfl rfl ?_
  refine gp_X3_15 rfl dX3_take_2 ?_
  refine g_aload_n 0 _ dX3_take_5 rfl rfl ?_
  refine g_iload_n 2 _ dX3_take_6 rfl rfl ?_
  refine gp_X3_19 rfl dX3_take_7 ?_
  refine g_aload_n 0 _ dX3_take_10 rfl rfl ?_
  refine g_at 11 rfl ?_
  refine gf_X3_9 rfl dX3_take_11 ?_
  refine g_iconst (nI 0) dX3_take_14 rfl ?_
  refine g_backv (g_runS (c_fill (sI (sI μ 2 1 k) 2 2 m) _ isI_11 (by decide)) rfl mw_J7_fill_53178 ms_J7_fill_53178 ml_X3_22 ⟨rfl, rfl, Nat.le_of_ble_eq_true rfl, Nat.le_of_ble_eq_true rfl⟩ rfl rfl (Nat.le_of_ble_eq_true rfl) dX3_take_15) ?_
  exact g_return dX3_take_18 rfl rfl
theorem c_drop (μ : Mm) : Ok mX3_drop (rmL 0) [.ref 2] μ (none, sI (sI μ 2 1 (-1)) 2 2 0) := by
  refine Ok.of (by decide) (Nat.le_of_ble_eq_true rfl) [some (.ref 2)] rfl ?_
  refine g_aload_n 0 _ dX3_drop_0 rfl rfl ?_
  refine g_iconst (-1) dX3_drop_1 rfl ?_
  refine gp_X3_15 rfl dX3_drop_2 ?_
  refine g_aload_n 0 _ dX3_drop_5 rfl rfl ?_
  refine g_iconst (nI 0) dX3_drop_6 rfl ?_
  refine gp_X3_19 rfl dX3_drop_7 ?_
  exact g_return dX3_drop_10 rfl rfl
/-- what a sheet of a kind keeps of a number -/
def cutF (k v : Int32) : Int32 := if k = 0 then v.toInt8.toInt32 else if k = 1 then v.toInt16.toInt32 else v
theorem c_write (μ : Mm) {i : Nat} (v : Int32) (hi : i < 60) : Ok mX3_write (rmL 0) [.ref 2, .int (nI i), .int v] μ (none, sI μ 11 i (cutF (μ.1 2 1) v)) := by
  refine Ok.of (by decide) (Nat.le_of_ble_eq_true rfl) [some (.ref 2), some (.int (nI i)), some (.int v)] rfl ?_
  have e1 : nI 1 = 1 := rfl
  refine g_aload_n 0 _ dX3_write_0 rfl rfl ?_
  refine gf_X3_9 rfl dX3_write_1 ?_
  refine g_iload_n 1 _ dX3_write_4 rfl rfl ?_
  refine g_aload_n 0 _ dX3_write_5 rfl rfl ?_
  refine gf_X3_15 rfl dX3_write_6 ?_
  refine g_if_ne 17 dX3_write_9 (by decide) (fun h9 => ?_) (fun h9 => ?_)
  · refine g_aload_n 0 _ dX3_write_17 rfl rfl ?_
    refine gf_X3_15 rfl dX3_write_18 ?_
    refine g_iconst (nI 1) dX3_write_21 rfl ?_
    refine g_icmp_ne 30 dX3_write_22 (by decide) (fun h22 => ?_) (fun h22 => ?_)
    · refine g_iload_n 2 _ dX3_write_30 rfl rfl ?_
      refine g_iastore (j := i) isI_11 (rfl) (by omega) (by omega) dX3_write_31 ?_
      exact g_return dX3_write_32 rfl (by unfold cutF; simp_all)
    · refine g_iload_n 2 _ dX3_write_25 rfl rfl ?_
      refine g_i2s dX3_write_26 ?_
      refine g_goto 31 dX3_write_27 (by decide) ?_
      refine g_iastore (j := i) isI_11 (rfl) (by omega) (by omega) dX3_write_31 ?_
      exact g_return dX3_write_32 rfl (by unfold cutF; simp_all)
  · refine g_iload_n 2 _ dX3_write_12 rfl rfl ?_
    refine g_i2b dX3_write_13 ?_
    refine g_goto 31 dX3_write_14 (by decide) ?_
    refine g_iastore (j := i) isI_11 (rfl) (by omega) (by omega) dX3_write_31 ?_
    exact g_return dX3_write_32 rfl (by unfold cutF; simp_all)
theorem c_read (μ : Mm) {i n : Nat} (hi : i < 60) (hl : μ.1 2 2 = nI n) (hn : n ≤ 60) : Ok mX3_read (rmL 0) [.ref 2, .int (nI i)] μ (some (.int (if i < n then μ.1 11 i else 0)), μ) := by
  refine Ok.of (by decide) (Nat.le_of_ble_eq_true rfl) [some (.ref 2), some (.int (nI i))] rfl ?_
  refine g_iload_n 1 _ dX3_read_0 rfl rfl ?_
  refine g_if_ltN 21 (by omega) dX3_read_1 (by decide) ?_
  refine g_iload_n 1 _ dX3_read_4 rfl rfl ?_
  refine g_aload_n 0 _ dX3_read_5 rfl rfl ?_
  refine gf_X3_19 rfl dX3_read_6 ?_
  refine g_top (w := .int (nI n)) (congrArg Value.int hl) ?_
  refine g_icmp_geN 21 (by omega) (by omega) dX3_read_9 (by decide) (fun h9 => ?_) (fun h9 => ?_)
  · refine g_iconst (nI 0) dX3_read_21 rfl ?_
    exact g_ireturn dX3_read_22 rfl rfl (by split <;> first | rfl | (exfalso; omega))
  · refine g_aload_n 0 _ dX3_read_12 rfl rfl ?_
    refine gf_X3_9 rfl dX3_read_13 ?_
    refine g_iload_n 1 _ dX3_read_16 rfl rfl ?_
    refine g_iaload (j := i) isI_11 (rfl) (by omega) (by omega) dX3_read_17 ?_
    refine g_goto 22 dX3_read_18 (by decide) ?_
    exact g_ireturn dX3_read_22 rfl rfl (by split <;> first | rfl | (exfalso; omega))
theorem xor_neg (x y : Int32) : (x ^^^ y) < 0 ↔ (x < 0 ↔ ¬ y < 0) := by
  have h : ∀ z : Int32, z < 0 ↔ z.toBitVec.msb = true := fun z => by
    rw [fa_lt, t0, BitVec.msb_eq_toInt, decide_eq_true_iff]
    exact Iff.rfl
  rw [h, h, h, show (x ^^^ y).toBitVec = x.toBitVec ^^^ y.toBitVec from rfl, BitVec.msb_xor]
  cases x.toBitVec.msb <;> cases y.toBitVec.msb <;> simp
theorem modN_pos {x : Int32} {n : Nat} (h0 : 0 < n) (h : 0 ≤ x.toInt) : (x.toInt.tmod n) = (modN x n : Int) := by
  rw [Int.tmod_eq_emod_of_nonneg h]
  unfold modN
  have := Int.emod_nonneg x.toInt (show (n : Int) ≠ 0 by omega)
  omega
theorem modN_neg {x : Int32} {n : Nat} (h0 : 0 < n) (h : x.toInt < 0) : ((x.toInt.tmod n) = 0 ∧ modN x n = 0) ∨ ((x.toInt.tmod n) ≠ 0 ∧ (modN x n : Int) = x.toInt.tmod n + n) := by
  have e := Int.tmod_eq_emod (a := x.toInt) (b := n)
  have h1 := Int.emod_nonneg x.toInt (show (n : Int) ≠ 0 by omega)
  have h2 := Int.emod_lt_of_pos x.toInt (show (0 : Int) < n by omega)
  unfold modN
  by_cases hd : (n : Int) ∣ x.toInt
  · left
    have := Int.emod_eq_zero_of_dvd hd
    have h3 := Int.tmod_eq_zero_of_dvd hd
    omega
  · right
    rw [if_neg (by omega)] at e
    have h3 : x.toInt % (n : Int) ≠ 0 := fun q => hd (Int.dvd_of_emod_eq_zero q)
    simp at e
    omega
theorem i32_ext {x y : Int32} (h : x.toInt = y.toInt) : x = y := (fa_eq x y).mpr h
theorem c_floorMod (μ : Mm) (x : Int32) {n : Nat} (h0 : 0 < n) (hn : n ≤ 60) : Ok mJ9_floorMod_7cf53 (rmL 0) [.int x, .int (nI n)] μ (some (.int (nI (modN x n))), μ) := by
  have hlt := modN_lt (k := x) h0
  have ht : (nI n).toInt = n := nI_toInt (by omega)
  have hr : (x - x / nI n * nI n).toInt = x.toInt.tmod n := by rw [rem_toInt, ht]
  have hm : (nI (modN x n)).toInt = modN x n := nI_toInt (by omega)
  have hp : ¬ nI n < 0 := nI_pos (by omega)
  have hx := xor_neg x (nI n)
  refine Ok.ofF (by decide +kernel) (Nat.le_of_ble_eq_true rfl) [some (.int x), some (.int (nI n)), none] rfl ?_
  refine g_iload_n 0 _ dJ9_floorMod_7cf53_0 rfl rfl ?_
  refine g_iload_n 1 _ dJ9_floorMod_7cf53_1 rfl rfl ?_
  refine g_irem dJ9_floorMod_7cf53_2 (nI_ne0 h0 (by omega)) ?_
  refine g_istore_n [some (.int x), some (.int (nI n)), some (.int (x - x / (nI n) * (nI n)))] dJ9_floorMod_7cf53_3 rfl (Nat.le_of_ble_eq_true rfl) rfl rfl ?_
  refine g_iload_n 0 _ dJ9_floorMod_7cf53_4 rfl rfl ?_
  refine g_iload_n 1 _ dJ9_floorMod_7cf53_5 rfl rfl ?_
  refine g_ixor dJ9_floorMod_7cf53_6 ?_
  refine g_at 7 rfl ?_
  refine g_if_ge 18 dJ9_floorMod_7cf53_7 (by decide) (fun h7 => ?_) (fun h7 => ?_)
  · refine g_iload_n 2 _ dJ9_floorMod_7cf53_18 rfl rfl ?_
    exact g_ireturn dJ9_floorMod_7cf53_19 rfl rfl (by refine congrArg (fun z => (some (Value.int z), μ)) (i32_ext ?_); rw [hm, hr]; first | (have h12 : (x - x / nI n * nI n).toInt = 0 := by rw [h11]; rfl); (rw [hr] at h12; by_cases q : 0 ≤ x.toInt; (rw [modN_pos h0 q]); (rcases modN_neg h0 (show x.toInt < 0 by omega) with h | h <;> omega)) | (have hxn : ¬ x < 0 := fun q => (by have := hx.mpr ⟨fun _ => hp, fun _ => q⟩; rw [fa_lt, t0] at this; rw [fa_le, t0] at h7; omega)); (rw [fa_lt, t0] at hxn; rw [modN_pos h0 (show 0 ≤ x.toInt by omega)]))
  · refine g_iload_n 2 _ dJ9_floorMod_7cf53_10 rfl rfl ?_
    refine g_if_eq 18 dJ9_floorMod_7cf53_11 (by decide) (fun h11 => ?_) (fun h11 => ?_)
    · refine g_iload_n 2 _ dJ9_floorMod_7cf53_18 rfl rfl ?_
      exact g_ireturn dJ9_floorMod_7cf53_19 rfl rfl (by refine congrArg (fun z => (some (Value.int z), μ)) (i32_ext ?_); rw [hm, hr]; first | (have h12 : (x - x / nI n * nI n).toInt = 0 := by rw [h11]; rfl); (rw [hr] at h12; by_cases q : 0 ≤ x.toInt; (rw [modN_pos h0 q]); (rcases modN_neg h0 (show x.toInt < 0 by omega) with h | h <;> omega)) | (have hxn : ¬ x < 0 := fun q => (by have := hx.mpr ⟨fun _ => hp, fun _ => q⟩; rw [fa_lt, t0] at this; rw [fa_le, t0] at h7; omega)); (rw [fa_lt, t0] at hxn; rw [modN_pos h0 (show 0 ≤ x.toInt by omega)]))
    · refine g_iload_n 2 _ dJ9_floorMod_7cf53_14 rfl rfl ?_
      refine g_iload_n 1 _ dJ9_floorMod_7cf53_15 rfl rfl ?_
      refine g_iadd dJ9_floorMod_7cf53_16 ?_
      exact g_ireturn dJ9_floorMod_7cf53_17 rfl rfl (by refine congrArg (fun z => (some (Value.int z), μ)) (i32_ext ?_); have hxn : x < 0 := (hx.mp (by rw [fa_lt, t0]; rw [fa_le, t0] at h7; omega)).mpr hp; rw [fa_lt, t0] at hxn; rcases modN_neg h0 hxn with h | h <;> rw [hm, fb_addI] <;> rw [hr, ht] <;> first | omega | (exfalso; exact h11 (i32_ext (by rw [hr, t0]; omega))))
theorem c_turn_l {μ : Mm} {b n : Nat} (hn : μ.1 1 2 = nI n) (h60 : n ≤ 60) (hb : b < n) (R : Option Value × Mm) (k : Int32) (hE : G mX1_turnMask (rmL 1) R (sR μ 10 (fil (μ.1 10) (fun i => μ.1 7 ((i + b) % n)) n)) 57 [some (.ref 1), some (.int k), some (.int (nI b)), some (.int (nI n))] []) : ∀ (m i : Nat), i ≤ n → n < i + m → G mX1_turnMask (rmL 1) R (sR μ 10 (fil (μ.1 10) (fun i => μ.1 7 ((i + b) % n)) i)) 23 [some (.ref 1), some (.int k), some (.int (nI b)), some (.int (nI i))] [] := by
  intro m
  induction m with
  | zero => exact fun i h1 h2 => absurd h2 (by omega)
  | succ m ih =>
    intro i h1 h2
    have hm : (i + b) % n < n := Nat.mod_lt _ (by omega)
    refine g_iload_n 3 _ dX1_turnMask_23 rfl rfl ?_
    refine g_aload_n 0 _ dX1_turnMask_24 rfl rfl ?_
    refine gf_X1_20 rfl dX1_turnMask_25 ?_
    refine g_top (w := .int (nI n)) (congrArg Value.int hn) ?_
    refine g_icmp_geN 57 (by omega) (by omega) dX1_turnMask_28 (by decide) (fun h28 => ?_) (fun h28 => ?_)
    · rw [show i = n by omega]; exact hE
    · refine g_aload_n 0 _ dX1_turnMask_31 rfl rfl ?_
      refine gf_X1_16 rfl dX1_turnMask_32 ?_
      refine g_iload_n 3 _ dX1_turnMask_35 rfl rfl ?_
      refine g_aload_n 0 _ dX1_turnMask_36 rfl rfl ?_
      refine gf_X1_11 rfl dX1_turnMask_37 ?_
      refine g_iconst (nI 0) dX1_turnMask_40 rfl ?_
      refine g_aaload (j := 0) isQ_6 (Or.inl rfl) (rfl) (by omega) (by omega) dX1_turnMask_41 ?_
      refine g_at 42 rfl ?_
      refine g_aload_n 0 _ dX1_turnMask_42 rfl rfl ?_
      refine g_iload_n 3 _ dX1_turnMask_43 rfl rfl ?_
      refine g_iload_n 2 _ dX1_turnMask_44 rfl rfl ?_
      refine g_iaddN dX1_turnMask_45 ?_
      refine g_backi (g_runV ((c_wrap (sR μ 10 (fil (μ.1 10) (fun i => μ.1 7 ((i + b) % n)) i)) _ (n := n) hn).to (by rw [wrF_add h60 (by omega) hb])) rfl mw_X1_wrap mi_X1_wrap ml_X1_33 isO_1 ⟨rfl, rfl, Nat.le_of_ble_eq_true rfl, Nat.le_of_ble_eq_true rfl⟩ rfl rfl (Nat.le_of_ble_eq_true rfl) dX1_turnMask_46) ?_
      refine g_iaload (j := (i + b) % n) (isI_row (w := 0) (by decide)) (rfl) (by omega) (by omega) dX1_turnMask_49 ?_
      refine g_iastore (j := i) isI_10 (rfl) (by omega) (by omega) dX1_turnMask_50 ?_
      refine g_mem (sR_fil μ 10 i _ (fun i => μ.1 7 ((i + b) % n)) rfl) ?_
      refine g_iincN [some (.ref 1), some (.int k), some (.int (nI b)), some (.int (nI (i + 1)))] dX1_turnMask_51 rfl (Nat.le_of_ble_eq_true rfl) rfl rfl ?_
      refine g_at 54 rfl ?_
      refine g_goto 23 dX1_turnMask_54 (by decide) ?_
      exact ih (i + 1) (by omega) (by omega)
theorem c_turn_e {μ : Mm} {b n : Nat} (hn : μ.1 1 2 = nI n) (h60 : n ≤ 60) (hb : b < n) (R : Option Value × Mm) (k : Int32) (hE : G mX1_turnMask (rmL 1) R (sR μ 10 (fil (μ.1 10) (fun i => μ.1 7 ((i + b) % n)) n)) 57 [some (.ref 1), some (.int k), some (.int (nI b)), some (.int (nI n))] []) : G mX1_turnMask (rmL 1) R μ 23 [some (.ref 1), some (.int k), some (.int (nI b)), some (.int (nI 0))] [] := by
  have h := c_turn_l hn h60 hb _ k hE (n + 1) 0 (by omega) (by omega)
  rw [fil_0, sR_id] at h
  exact h
theorem c_turn_z (μ : Mm) (k : Int32) {n b : Nat} (hn : μ.1 1 2 = nI n) (h60 : n ≤ 60) : G mX1_turnMask (rmL 1) (none, sR (sR μ 10 (fil (μ.1 10) (fun i => μ.1 7 ((i + b) % n)) n)) 7 (fil (μ.1 7) (fun i => μ.1 7 ((i + b) % n)) n)) (sR μ 10 (fil (μ.1 10) (fun i => μ.1 7 ((i + b) % n)) n)) 57 [some (.ref 1), some (.int k), some (.int (nI b)), some (.int (nI n))] [] := by
  refine g_aload_n 0 _ dX1_turnMask_57 rfl rfl ?_
  refine gf_X1_16 rfl dX1_turnMask_58 ?_
  refine g_iconst (nI 0) dX1_turnMask_61 rfl ?_
  refine g_aload_n 0 _ dX1_turnMask_62 rfl rfl ?_
  refine gf_X1_11 rfl dX1_turnMask_63 ?_
  refine g_iconst (nI 0) dX1_turnMask_66 rfl ?_
  refine g_aaload (j := 0) isQ_6 (Or.inl rfl) (rfl) (by omega) (by omega) dX1_turnMask_67 ?_
  refine g_at 68 rfl ?_
  refine g_iconst (nI 0) dX1_turnMask_68 rfl ?_
  refine g_aload_n 0 _ dX1_turnMask_69 rfl rfl ?_
  refine gf_X1_20 rfl dX1_turnMask_70 ?_
  refine g_top (w := .int (nI n)) (congrArg Value.int hn) ?_
  refine g_copy isI_10 (isI_row (w := 0) (by decide)) rfl rfl rfl (n := n) (by omega) (by omega) (by decide) (Nat.le_of_ble_eq_true rfl) (Nat.le_of_ble_eq_true rfl) rfl dX1_turnMask_73 ?_
  refine g_return dX1_turnMask_76 rfl (Prod.ext rfl ?_)
  show sR _ 7 _ = sR _ 7 _
  congr 1
  funext j
  unfold va_cpy
  by_cases hj : j < n
  · rw [if_pos (by omega), fil_in hj, show 0 + (j - 0) = j by omega, sR_at, fil_in hj]
  · rw [if_neg (by omega), fil_out (by omega)]
    rfl
theorem c_turnMask (μ : Mm) (k : Int32) {n : Nat} (hn : μ.1 1 2 = nI n) (h1 : 1 ≤ n) (h60 : n ≤ 60) : Ok mX1_turnMask (rmL 1) [.ref 1, .int k] μ (none, sR (sR μ 10 (fil (μ.1 10) (fun i => μ.1 7 ((i + modN k n) % n)) n)) 7 (fil (μ.1 7) (fun i => μ.1 7 ((i + modN k n) % n)) n)) := by
  have hb := modN_lt (k := k) (show 0 < n by omega)
  refine Ok.of (by decide) (Nat.le_of_ble_eq_true rfl) [some (.ref 1), some (.int k), none, none] rfl ?_
  refine g_aload_n 0 _ dX1_turnMask_0 rfl rfl ?_
  refine gf_X1_20 rfl dX1_turnMask_1 ?_
  refine g_top (w := .int (nI n)) (congrArg Value.int hn) ?_
  refine g_iconst (nI 1) dX1_turnMask_4 rfl ?_
  refine g_icmp_geN 12 (by omega) (by omega) dX1_turnMask_5 (by decide) (fun h5 => ?_) (fun h5 => ?_)
  · refine g_iload_n 1 _ dX1_turnMask_12 rfl rfl ?_
    refine g_aload_n 0 _ dX1_turnMask_13 rfl rfl ?_
    refine gf_X1_20 rfl dX1_turnMask_14 ?_
    refine g_top (w := .int (nI n)) (congrArg Value.int hn) ?_
    refine g_backi (g_runS (c_floorMod μ k (by omega) h60) rfl mw_J9_floorMod_7cf53 ms_J9_floorMod_7cf53 ml_X1_44 ⟨rfl, rfl, Nat.le_of_ble_eq_true rfl, Nat.le_of_ble_eq_true rfl⟩ rfl rfl (Nat.le_of_ble_eq_true rfl) dX1_turnMask_17) ?_
    refine g_istore_n [some (.ref 1), some (.int k), some (.int (nI (modN k n))), none] dX1_turnMask_20 rfl (Nat.le_of_ble_eq_true rfl) rfl rfl ?_
    refine g_iconst (nI 0) dX1_turnMask_21 rfl ?_
    refine g_istore_n [some (.ref 1), some (.int k), some (.int (nI (modN k n))), some (.int (nI 0))] dX1_turnMask_22 rfl (Nat.le_of_ble_eq_true rfl) rfl rfl ?_
    exact c_turn_e hn h60 hb _ k (c_turn_z μ k hn h60)
  · exact absurd h5 (by omega)
end
section
/-! HoleMask: the ring -/
theorem c_ring_ok (μ : Mm) {n : Nat} (h1 : 1 ≤ n) (h60 : n ≤ 60) : Ok mX5_ring (rmL 3) [.ref 0, .int (nI n)] μ (some (.int (nI 1)), sI (stM (sI μ 0 5 0) (nI n)) 3 4 0) := by
  refine Ok.of (by decide) (Nat.le_of_ble_eq_true rfl) [some (.ref 0), some (.int (nI n))] rfl ?_
  refine g_aload_n 0 _ dX5_ring_0 rfl rfl ?_
  refine g_iload_n 1 _ dX5_ring_1 rfl rfl ?_
  refine g_iconst (nI 1) dX5_ring_2 rfl ?_
  refine g_icmp_ltN 12 (by omega) (by omega) dX5_ring_3 (by decide) (fun h3 => ?_) (fun h3 => ?_)
  · exact absurd h3 (by omega)
  · refine g_iload_n 1 _ dX5_ring_6 rfl rfl ?_
    refine g_bipush (nI 60) dX5_ring_7 rfl ?_
    refine g_icmp_leN 16 (by omega) (by omega) dX5_ring_9 (by decide) (fun h9 => ?_) (fun h9 => ?_)
    · refine g_iconst (nI 0) dX5_ring_16 rfl ?_
      refine g_backi (g_runV (c_refuses0 μ) rfl mw_X5_refuses mi_X5_refuses ml_X5_48 isO_0 ⟨rfl, rfl, Nat.le_of_ble_eq_true rfl, Nat.le_of_ble_eq_true rfl⟩ rfl rfl (Nat.le_of_ble_eq_true rfl) dX5_ring_17) ?_
      refine g_if_eqN 25 (by omega) dX5_ring_20 (by decide) (fun h20 => ?_) (fun h20 => ?_)
      · refine g_aload_n 0 _ dX5_ring_25 rfl rfl ?_
        refine g_iload_n 1 _ dX5_ring_26 rfl rfl ?_
        refine g_backv (g_runV (c_startRing (sI μ 0 5 0) (nI n)) rfl mw_X5_startRing mi_X5_startRing ml_X5_52 isO_0 ⟨rfl, rfl, Nat.le_of_ble_eq_true rfl, Nat.le_of_ble_eq_true rfl⟩ rfl rfl (Nat.le_of_ble_eq_true rfl) dX5_ring_27) ?_
        refine g_iconst (nI 1) dX5_ring_30 rfl ?_
        exact g_ireturn dX5_ring_31 rfl rfl rfl
      · exact absurd h20 (by omega)
    · exact absurd h9 (by omega)
theorem c_ring_no (μ : Mm) (a : Int32) (h : a.toInt < 1 ∨ 60 < a.toInt) : Ok mX5_ring (rmL 3) [.ref 0, .int a] μ (some (.int (nI 0)), sI μ 0 5 (nI 1)) := by
  refine Ok.of (by decide) (Nat.le_of_ble_eq_true rfl) [some (.ref 0), some (.int a)] rfl ?_
  refine g_aload_n 0 _ dX5_ring_0 rfl rfl ?_
  refine g_iload_n 1 _ dX5_ring_1 rfl rfl ?_
  refine g_iconst (nI 1) dX5_ring_2 rfl ?_
  refine g_icmp_lt 12 dX5_ring_3 (by decide) (fun h3 => ?_) (fun h3 => ?_)
  · refine g_iconst (nI 1) dX5_ring_12 rfl ?_
    refine g_goto 17 dX5_ring_13 (by decide) ?_
    refine g_backi (g_runV (c_refuses1 μ (f := nI 1) (by decide)) rfl mw_X5_refuses mi_X5_refuses ml_X5_48 isO_0 ⟨rfl, rfl, Nat.le_of_ble_eq_true rfl, Nat.le_of_ble_eq_true rfl⟩ rfl rfl (Nat.le_of_ble_eq_true rfl) dX5_ring_17) ?_
    refine g_if_eqN 25 (by omega) dX5_ring_20 (by decide) (fun h20 => ?_) (fun h20 => ?_)
    · exact absurd h20 (by omega)
    · refine g_iconst (nI 0) dX5_ring_23 rfl ?_
      exact g_ireturn dX5_ring_24 rfl rfl rfl
  · refine g_iload_n 1 _ dX5_ring_6 rfl rfl ?_
    refine g_bipush (nI 60) dX5_ring_7 rfl ?_
    refine g_icmp_le 16 dX5_ring_9 (by decide) (fun h9 => ?_) (fun h9 => ?_)
    · exfalso; simp only [ne_eq, fa_lt, fa_le, fa_eq, t0, t1, t2, tm1, nt0, nt1, nt2, nt3, nt4, nt5, nt7, nt9, nt10, nt13, nt14, nt30, nt32, nt59, nt60, nt200, nt1000, nt1000000, nt1073741824] at *; omega
    · refine g_iconst (nI 1) dX5_ring_12 rfl ?_
      refine g_goto 17 dX5_ring_13 (by decide) ?_
      refine g_backi (g_runV (c_refuses1 μ (f := nI 1) (by decide)) rfl mw_X5_refuses mi_X5_refuses ml_X5_48 isO_0 ⟨rfl, rfl, Nat.le_of_ble_eq_true rfl, Nat.le_of_ble_eq_true rfl⟩ rfl rfl (Nat.le_of_ble_eq_true rfl) dX5_ring_17) ?_
      refine g_if_eqN 25 (by omega) dX5_ring_20 (by decide) (fun h20 => ?_) (fun h20 => ?_)
      · exact absurd h20 (by omega)
      · refine g_iconst (nI 0) dX5_ring_23 rfl ?_
        exact g_ireturn dX5_ring_24 rfl rfl rfl
theorem c_sheet_no (μ : Mm) (k m : Int32) (h : shF k m ≠ 0) : Ok mX5_sheet (rmL 2) [.ref 0, .int k, .int m] μ (some (.int (-1)), sI μ 0 5 (shF k m)) := by
  refine Ok.of (by decide) (Nat.le_of_ble_eq_true rfl) [some (.ref 0), some (.int k), some (.int m)] rfl ?_
  refine g_aload_n 0 _ dX5_sheet_0 rfl rfl ?_
  refine g_iload_n 1 _ dX5_sheet_1 rfl rfl ?_
  refine g_iload_n 2 _ dX5_sheet_2 rfl rfl ?_
  refine g_backi (g_runS (c_sheetFault μ k m) rfl mw_X5_sheetFault ms_X5_sheetFault ml_X5_56 ⟨rfl, rfl, Nat.le_of_ble_eq_true rfl, Nat.le_of_ble_eq_true rfl⟩ rfl rfl (Nat.le_of_ble_eq_true rfl) dX5_sheet_3) ?_
  refine g_backi (g_runV (c_refuses1 μ h) rfl mw_X5_refuses mi_X5_refuses ml_X5_48 isO_0 ⟨rfl, rfl, Nat.le_of_ble_eq_true rfl, Nat.le_of_ble_eq_true rfl⟩ rfl rfl (Nat.le_of_ble_eq_true rfl) dX5_sheet_6) ?_
  refine g_if_eqN 14 (by omega) dX5_sheet_9 (by decide) (fun h9 => ?_) (fun h9 => ?_)
  · exact absurd h9 (by omega)
  · refine g_iconst (-1) dX5_sheet_12 rfl ?_
    exact g_ireturn dX5_sheet_13 rfl rfl rfl
theorem c_sheet_ok (μ : Mm) (k m : Int32) (h : shF k m = 0) : Ok mX5_sheet (rmL 2) [.ref 0, .int k, .int m] μ (some (.int (if k = 3 then 0 else m)), sR (sI (sI (sI μ 0 5 0) 2 1 k) 2 2 (if k = 3 then 0 else m)) 11 (fil (μ.1 11) (fun _ => 0) 60)) := by
  have e3 : nI 3 = 3 := rfl
  refine Ok.of (by decide) (Nat.le_of_ble_eq_true rfl) [some (.ref 0), some (.int k), some (.int m)] rfl ?_
  refine g_aload_n 0 _ dX5_sheet_0 rfl rfl ?_
  refine g_iload_n 1 _ dX5_sheet_1 rfl rfl ?_
  refine g_iload_n 2 _ dX5_sheet_2 rfl rfl ?_
  refine g_backi (g_runS ((c_sheetFault μ k m).to (by rw [h]; try rfl)) rfl mw_X5_sheetFault ms_X5_sheetFault ml_X5_56 ⟨rfl, rfl, Nat.le_of_ble_eq_true rfl, Nat.le_of_ble_eq_true rfl⟩ rfl rfl (Nat.le_of_ble_eq_true rfl) dX5_sheet_3) ?_
  refine g_backi (g_runV (c_refuses0 μ) rfl mw_X5_refuses mi_X5_refuses ml_X5_48 isO_0 ⟨rfl, rfl, Nat.le_of_ble_eq_true rfl, Nat.le_of_ble_eq_true rfl⟩ rfl rfl (Nat.le_of_ble_eq_true rfl) dX5_sheet_6) ?_
  refine g_if_eqN 14 (by omega) dX5_sheet_9 (by decide) (fun h9 => ?_) (fun h9 => ?_)
  · refine g_aload_n 0 _ dX5_sheet_14 rfl rfl ?_
    refine gf_X5_19 rfl dX5_sheet_15 ?_
    refine g_iload_n 1 _ dX5_sheet_18 rfl rfl ?_
    refine g_iload_n 1 _ dX5_sheet_19 rfl rfl ?_
    refine g_iconst (nI 3) dX5_sheet_20 rfl ?_
    refine g_icmp_ne 28 dX5_sheet_21 (by decide) (fun h21 => ?_) (fun h21 => ?_)
    · refine g_iload_n 2 _ dX5_sheet_28 rfl rfl ?_
      refine g_backv (g_runVN (c_take (sI μ 0 5 0) k m) rfl mw_X3_take mi_X3_take mn_X5_60 isO_2 ⟨rfl, rfl, Nat.le_of_ble_eq_true rfl, Nat.le_of_ble_eq_true rfl⟩ rfl rfl (Nat.le_of_ble_eq_true rfl) dX5_sheet_29) ?_
      refine g_aload_n 0 _ dX5_sheet_32 rfl rfl ?_
      refine gf_X5_19 rfl dX5_sheet_33 ?_
      refine gf_X5_64 rfl dX5_sheet_36 ?_
      exact g_ireturn dX5_sheet_39 rfl rfl (by first | rw [if_pos (show k = 3 from h21)]; rfl | rw [if_neg (show ¬ k = 3 from h21)]; rfl)
    · refine g_iconst (nI 0) dX5_sheet_24 rfl ?_
      refine g_goto 29 dX5_sheet_25 (by decide) ?_
      refine g_backv (g_runVN (c_take (sI μ 0 5 0) k (nI 0)) rfl mw_X3_take mi_X3_take mn_X5_60 isO_2 ⟨rfl, rfl, Nat.le_of_ble_eq_true rfl, Nat.le_of_ble_eq_true rfl⟩ rfl rfl (Nat.le_of_ble_eq_true rfl) dX5_sheet_29) ?_
      refine g_aload_n 0 _ dX5_sheet_32 rfl rfl ?_
      refine gf_X5_19 rfl dX5_sheet_33 ?_
      refine gf_X5_64 rfl dX5_sheet_36 ?_
      exact g_ireturn dX5_sheet_39 rfl rfl (by first | rw [if_pos (show k = 3 from h21)]; rfl | rw [if_neg (show ¬ k = 3 from h21)]; rfl)
  · exact absurd h9 (by omega)
theorem c_entry_no2 (μ : Mm) (i v : Int32) (h : μ.1 2 1 = -1 ∨ μ.1 2 1 = nI 3) : Ok mX5_entry (rmL 1) [.ref 0, .int i, .int v] μ (some (.int (nI 0)), sI μ 0 5 (nI 2)) := by
  refine Ok.of (by decide) (Nat.le_of_ble_eq_true rfl) [some (.ref 0), some (.int i), some (.int v), none] rfl ?_
  refine g_aload_n 0 _ dX5_entry_0 rfl rfl ?_
  refine gf_X5_19 rfl dX5_entry_1 ?_
  refine gf_X5_67 rfl dX5_entry_4 ?_
  refine g_iconst (-1) dX5_entry_7 rfl ?_
  refine g_icmp_eq 22 dX5_entry_8 (by decide) (fun h8 => ?_) (fun h8 => ?_)
  · refine g_iconst (nI 2) dX5_entry_22 rfl ?_
    refine g_goto 46 dX5_entry_23 (by decide) ?_
    refine g_istore_n [some (.ref 0), some (.int i), some (.int v), some (.int (nI 2))] dX5_entry_46 rfl (Nat.le_of_ble_eq_true rfl) rfl rfl ?_
    refine g_aload_n 0 _ dX5_entry_47 rfl rfl ?_
    refine g_iload_n 3 _ dX5_entry_48 rfl rfl ?_
    refine g_backi (g_runV (c_refuses1 μ (f := nI 2) (by decide)) rfl mw_X5_refuses mi_X5_refuses ml_X5_48 isO_0 ⟨rfl, rfl, Nat.le_of_ble_eq_true rfl, Nat.le_of_ble_eq_true rfl⟩ rfl rfl (Nat.le_of_ble_eq_true rfl) dX5_entry_49) ?_
    refine g_if_eqN 57 (by omega) dX5_entry_52 (by decide) (fun h52 => ?_) (fun h52 => ?_)
    · exact absurd h52 (by omega)
    · refine g_iconst (nI 0) dX5_entry_55 rfl ?_
      exact g_ireturn dX5_entry_56 rfl rfl rfl
  · refine g_aload_n 0 _ dX5_entry_11 rfl rfl ?_
    refine gf_X5_19 rfl dX5_entry_12 ?_
    refine gf_X5_67 rfl dX5_entry_15 ?_
    refine g_iconst (nI 3) dX5_entry_18 rfl ?_
    refine g_icmp_ne 26 dX5_entry_19 (by decide) (fun h19 => ?_) (fun h19 => ?_)
    · exact h.elim (fun q => absurd q h8) (fun q => absurd q h19)
    · refine g_iconst (nI 2) dX5_entry_22 rfl ?_
      refine g_goto 46 dX5_entry_23 (by decide) ?_
      refine g_istore_n [some (.ref 0), some (.int i), some (.int v), some (.int (nI 2))] dX5_entry_46 rfl (Nat.le_of_ble_eq_true rfl) rfl rfl ?_
      refine g_aload_n 0 _ dX5_entry_47 rfl rfl ?_
      refine g_iload_n 3 _ dX5_entry_48 rfl rfl ?_
      refine g_backi (g_runV (c_refuses1 μ (f := nI 2) (by decide)) rfl mw_X5_refuses mi_X5_refuses ml_X5_48 isO_0 ⟨rfl, rfl, Nat.le_of_ble_eq_true rfl, Nat.le_of_ble_eq_true rfl⟩ rfl rfl (Nat.le_of_ble_eq_true rfl) dX5_entry_49) ?_
      refine g_if_eqN 57 (by omega) dX5_entry_52 (by decide) (fun h52 => ?_) (fun h52 => ?_)
      · exact absurd h52 (by omega)
      · refine g_iconst (nI 0) dX5_entry_55 rfl ?_
        exact g_ireturn dX5_entry_56 rfl rfl rfl
theorem c_entry_no1 (μ : Mm) (i v : Int32) (h1 : μ.1 2 1 ≠ -1) (h3 : μ.1 2 1 ≠ nI 3) (h : i < 0 ∨ μ.1 2 2 ≤ i) : Ok mX5_entry (rmL 1) [.ref 0, .int i, .int v] μ (some (.int (nI 0)), sI μ 0 5 (nI 1)) := by
  refine Ok.of (by decide) (Nat.le_of_ble_eq_true rfl) [some (.ref 0), some (.int i), some (.int v), none] rfl ?_
  refine g_aload_n 0 _ dX5_entry_0 rfl rfl ?_
  refine gf_X5_19 rfl dX5_entry_1 ?_
  refine gf_X5_67 rfl dX5_entry_4 ?_
  refine g_iconst (-1) dX5_entry_7 rfl ?_
  refine g_icmp_eq 22 dX5_entry_8 (by decide) (fun h8 => ?_) (fun h8 => ?_)
  · exact absurd h8 h1
  · refine g_aload_n 0 _ dX5_entry_11 rfl rfl ?_
    refine gf_X5_19 rfl dX5_entry_12 ?_
    refine gf_X5_67 rfl dX5_entry_15 ?_
    refine g_iconst (nI 3) dX5_entry_18 rfl ?_
    refine g_icmp_ne 26 dX5_entry_19 (by decide) (fun h19 => ?_) (fun h19 => ?_)
    · refine g_iload_n 1 _ dX5_entry_26 rfl rfl ?_
      refine g_if_lt 41 dX5_entry_27 (by decide) (fun h27 => ?_) (fun h27 => ?_)
      · refine g_iconst (nI 1) dX5_entry_41 rfl ?_
        refine g_goto 46 dX5_entry_42 (by decide) ?_
        refine g_istore_n [some (.ref 0), some (.int i), some (.int v), some (.int (nI 1))] dX5_entry_46 rfl (Nat.le_of_ble_eq_true rfl) rfl rfl ?_
        refine g_aload_n 0 _ dX5_entry_47 rfl rfl ?_
        refine g_iload_n 3 _ dX5_entry_48 rfl rfl ?_
        refine g_backi (g_runV (c_refuses1 μ (f := nI 1) (by decide)) rfl mw_X5_refuses mi_X5_refuses ml_X5_48 isO_0 ⟨rfl, rfl, Nat.le_of_ble_eq_true rfl, Nat.le_of_ble_eq_true rfl⟩ rfl rfl (Nat.le_of_ble_eq_true rfl) dX5_entry_49) ?_
        refine g_if_eqN 57 (by omega) dX5_entry_52 (by decide) (fun h52 => ?_) (fun h52 => ?_)
        · exact absurd h52 (by omega)
        · refine g_iconst (nI 0) dX5_entry_55 rfl ?_
          exact g_ireturn dX5_entry_56 rfl rfl rfl
      · refine g_iload_n 1 _ dX5_entry_30 rfl rfl ?_
        refine g_aload_n 0 _ dX5_entry_31 rfl rfl ?_
        refine gf_X5_19 rfl dX5_entry_32 ?_
        refine gf_X5_64 rfl dX5_entry_35 ?_
        refine g_icmp_lt 45 dX5_entry_38 (by decide) (fun h38 => ?_) (fun h38 => ?_)
        · exfalso; simp only [ne_eq, fa_lt, fa_le, fa_eq, t0, t1, t2, tm1, nt0, nt1, nt2, nt3, nt4, nt5, nt7, nt9, nt10, nt13, nt14, nt30, nt32, nt59, nt60, nt200, nt1000, nt1000000, nt1073741824] at *; omega
        · refine g_iconst (nI 1) dX5_entry_41 rfl ?_
          refine g_goto 46 dX5_entry_42 (by decide) ?_
          refine g_istore_n [some (.ref 0), some (.int i), some (.int v), some (.int (nI 1))] dX5_entry_46 rfl (Nat.le_of_ble_eq_true rfl) rfl rfl ?_
          refine g_aload_n 0 _ dX5_entry_47 rfl rfl ?_
          refine g_iload_n 3 _ dX5_entry_48 rfl rfl ?_
          refine g_backi (g_runV (c_refuses1 μ (f := nI 1) (by decide)) rfl mw_X5_refuses mi_X5_refuses ml_X5_48 isO_0 ⟨rfl, rfl, Nat.le_of_ble_eq_true rfl, Nat.le_of_ble_eq_true rfl⟩ rfl rfl (Nat.le_of_ble_eq_true rfl) dX5_entry_49) ?_
          refine g_if_eqN 57 (by omega) dX5_entry_52 (by decide) (fun h52 => ?_) (fun h52 => ?_)
          · exact absurd h52 (by omega)
          · refine g_iconst (nI 0) dX5_entry_55 rfl ?_
            exact g_ireturn dX5_entry_56 rfl rfl rfl
    · exact absurd h19 h3
theorem c_entry_ok (μ : Mm) {i n : Nat} (v : Int32) (h1 : μ.1 2 1 ≠ -1) (h3 : μ.1 2 1 ≠ nI 3) (hl : μ.1 2 2 = nI n) (hn : n ≤ 60) (hi : i < n) : Ok mX5_entry (rmL 1) [.ref 0, .int (nI i), .int v] μ (some (.int (nI 1)), sI (sI μ 0 5 0) 11 i (cutF (μ.1 2 1) v)) := by
  refine Ok.of (by decide) (Nat.le_of_ble_eq_true rfl) [some (.ref 0), some (.int (nI i)), some (.int v), none] rfl ?_
  refine g_aload_n 0 _ dX5_entry_0 rfl rfl ?_
  refine gf_X5_19 rfl dX5_entry_1 ?_
  refine gf_X5_67 rfl dX5_entry_4 ?_
  refine g_iconst (-1) dX5_entry_7 rfl ?_
  refine g_icmp_eq 22 dX5_entry_8 (by decide) (fun h8 => ?_) (fun h8 => ?_)
  · exact absurd h8 h1
  · refine g_aload_n 0 _ dX5_entry_11 rfl rfl ?_
    refine gf_X5_19 rfl dX5_entry_12 ?_
    refine gf_X5_67 rfl dX5_entry_15 ?_
    refine g_iconst (nI 3) dX5_entry_18 rfl ?_
    refine g_icmp_ne 26 dX5_entry_19 (by decide) (fun h19 => ?_) (fun h19 => ?_)
    · refine g_iload_n 1 _ dX5_entry_26 rfl rfl ?_
      refine g_if_ltN 41 (by omega) dX5_entry_27 (by decide) ?_
      refine g_iload_n 1 _ dX5_entry_30 rfl rfl ?_
      refine g_aload_n 0 _ dX5_entry_31 rfl rfl ?_
      refine gf_X5_19 rfl dX5_entry_32 ?_
      refine gf_X5_64 rfl dX5_entry_35 ?_
      refine g_top (w := .int (nI n)) (congrArg Value.int hl) ?_
      refine g_icmp_ltN 45 (by omega) (by omega) dX5_entry_38 (by decide) (fun h38 => ?_) (fun h38 => ?_)
      · refine g_iconst (nI 0) dX5_entry_45 rfl ?_
        refine g_istore_n [some (.ref 0), some (.int (nI i)), some (.int v), some (.int (nI 0))] dX5_entry_46 rfl (Nat.le_of_ble_eq_true rfl) rfl rfl ?_
        refine g_aload_n 0 _ dX5_entry_47 rfl rfl ?_
        refine g_iload_n 3 _ dX5_entry_48 rfl rfl ?_
        refine g_backi (g_runV (c_refuses0 μ) rfl mw_X5_refuses mi_X5_refuses ml_X5_48 isO_0 ⟨rfl, rfl, Nat.le_of_ble_eq_true rfl, Nat.le_of_ble_eq_true rfl⟩ rfl rfl (Nat.le_of_ble_eq_true rfl) dX5_entry_49) ?_
        refine g_if_eqN 57 (by omega) dX5_entry_52 (by decide) (fun h52 => ?_) (fun h52 => ?_)
        · refine g_aload_n 0 _ dX5_entry_57 rfl rfl ?_
          refine gf_X5_19 rfl dX5_entry_58 ?_
          refine g_iload_n 1 _ dX5_entry_61 rfl rfl ?_
          refine g_iload_n 2 _ dX5_entry_62 rfl rfl ?_
          refine g_backv (g_runVN (c_write (sI μ 0 5 0) v (show i < 60 by omega)) rfl mw_X3_write mi_X3_write mn_X5_70 isO_2 ⟨rfl, rfl, Nat.le_of_ble_eq_true rfl, Nat.le_of_ble_eq_true rfl⟩ rfl rfl (Nat.le_of_ble_eq_true rfl) dX5_entry_63) ?_
          refine g_iconst (nI 1) dX5_entry_66 rfl ?_
          exact g_ireturn dX5_entry_67 rfl rfl rfl
        · exact absurd h52 (by omega)
      · exact absurd h38 (by omega)
    · exact absurd h19 h3
/-- the sheet as it is read -/
def rdF (f : Nat → Int32) (l : Nat) (i : Nat) : Int32 := if i < l then f i else 0
abbrev fitP (w : Nat) (v : Int32) : Prop := -(limF w) ≤ v ∧ v ≤ limF w
theorem c_layFault_1 (μ : Mm) (a : Int32) (h : a.toInt < 0 ∨ 2 < a.toInt) : Ok mX5_layFault (rmL 1) [.ref 0, .int a] μ (some (.int (nI 1)), μ) := by
  refine Ok.of (by decide) (Nat.le_of_ble_eq_true rfl) [some (.ref 0), some (.int a), none] rfl ?_
  refine g_iload_n 1 _ dX5_layFault_0 rfl rfl ?_
  refine g_backi (g_runSN (c_isRow μ a) rfl mw_X1_isRow ms_X1_isRow mn_X5_93 ⟨rfl, rfl, Nat.le_of_ble_eq_true rfl, Nat.le_of_ble_eq_true rfl⟩ rfl rfl (Nat.le_of_ble_eq_true rfl) dX5_layFault_1) ?_
  refine g_if_neB 9 dX5_layFault_4 (by decide) (fun h4 => ?_) (fun h4 => ?_)
  · exfalso; simp only [ne_eq, fa_lt, fa_le, fa_eq, t0, t1, t2, tm1, nt0, nt1, nt2, nt3, nt4, nt5, nt7, nt9, nt10, nt13, nt14, nt30, nt32, nt59, nt60, nt200, nt1000, nt1000000, nt1073741824] at *; omega
  · refine g_iconst (nI 1) dX5_layFault_7 rfl ?_
    exact g_ireturn dX5_layFault_8 rfl rfl rfl
theorem c_layFault_2 (μ : Mm) {w : Nat} (hw : w < 3) (hk : μ.1 2 1 = -1) : Ok mX5_layFault (rmL 1) [.ref 0, .int (nI w)] μ (some (.int (nI 2)), μ) := by
  refine Ok.of (by decide) (Nat.le_of_ble_eq_true rfl) [some (.ref 0), some (.int (nI w)), none] rfl ?_
  refine g_iload_n 1 _ dX5_layFault_0 rfl rfl ?_
  refine g_backi (g_runSN (c_isRow μ (nI w)) rfl mw_X1_isRow ms_X1_isRow mn_X5_93 ⟨rfl, rfl, Nat.le_of_ble_eq_true rfl, Nat.le_of_ble_eq_true rfl⟩ rfl rfl (Nat.le_of_ble_eq_true rfl) dX5_layFault_1) ?_
  refine g_if_neB 9 dX5_layFault_4 (by decide) (fun h4 => ?_) (fun h4 => ?_)
  · refine g_aload_n 0 _ dX5_layFault_9 rfl rfl ?_
    refine gf_X5_19 rfl dX5_layFault_10 ?_
    refine gf_X5_67 rfl dX5_layFault_13 ?_
    refine g_iconst (-1) dX5_layFault_16 rfl ?_
    refine g_icmp_ne 22 dX5_layFault_17 (by decide) (fun h17 => ?_) (fun h17 => ?_)
    · exact absurd hk h17
    · refine g_iconst (nI 2) dX5_layFault_20 rfl ?_
      exact g_ireturn dX5_layFault_21 rfl rfl rfl
  · exact absurd ⟨nI_pos (by omega), nI_le (by omega) (by omega)⟩ h4
theorem c_layFault_l {μ : Mm} {w n l : Nat} (hn : μ.1 1 2 = nI n) (h60 : n ≤ 60) (hw : w < 3) (hl : μ.1 2 2 = nI l) (hl60 : l ≤ 60) (r : Int32) (hr : r = if (∀ i, i < n → fitP w (rdF (μ.1 11) l i)) then nI 0 else nI 1) : ∀ (m i : Nat), i ≤ n → n < i + m → (∀ j, j < i → fitP w (rdF (μ.1 11) l j)) → G mX5_layFault (rmL 1) (some (.int r), μ) μ 24 [some (.ref 0), some (.int (nI w)), some (.int (nI i))] [] := by
  intro m
  induction m with
  | zero => exact fun i h1 h2 => absurd h2 (by omega)
  | succ m ih =>
    intro i h1 h2 hj
    refine g_iload_n 2 _ dX5_layFault_24 rfl rfl ?_
    refine g_aload_n 0 _ dX5_layFault_25 rfl rfl ?_
    refine gf_X5_10 rfl dX5_layFault_26 ?_
    refine gf_X5_77 rfl dX5_layFault_29 ?_
    refine g_top (w := .int (nI n)) (congrArg Value.int hn) ?_
    refine g_icmp_geN 58 (by omega) (by omega) dX5_layFault_32 (by decide) (fun h32 => ?_) (fun h32 => ?_)
    · refine g_iconst (nI 0) dX5_layFault_58 rfl ?_
      exact g_ireturn dX5_layFault_59 rfl rfl (by rw [hr, if_pos (fun j hj2 => hj j (by omega))])
    · refine g_iload_n 1 _ dX5_layFault_35 rfl rfl ?_
      refine g_aload_n 0 _ dX5_layFault_36 rfl rfl ?_
      refine gf_X5_19 rfl dX5_layFault_37 ?_
      refine g_iload_n 2 _ dX5_layFault_40 rfl rfl ?_
      refine g_backi (g_runVN (c_read μ (i := i) (by omega) hl hl60) rfl mw_X3_read mi_X3_read mn_X5_80 isO_2 ⟨rfl, rfl, Nat.le_of_ble_eq_true rfl, Nat.le_of_ble_eq_true rfl⟩ rfl rfl (Nat.le_of_ble_eq_true rfl) dX5_layFault_41) ?_
      refine g_backi (g_runSN (c_fits μ _ hw) rfl mw_X1_fits ms_X1_fits mn_X5_99 ⟨rfl, rfl, Nat.le_of_ble_eq_true rfl, Nat.le_of_ble_eq_true rfl⟩ rfl rfl (Nat.le_of_ble_eq_true rfl) dX5_layFault_44) ?_
      refine g_if_neB 52 dX5_layFault_47 (by decide) (fun h47 => ?_) (fun h47 => ?_)
      · refine g_iincN [some (.ref 0), some (.int (nI w)), some (.int (nI (i + 1)))] dX5_layFault_52 rfl (Nat.le_of_ble_eq_true rfl) rfl rfl ?_
        refine g_goto 24 dX5_layFault_55 (by decide) ?_
        exact ih (i + 1) (by omega) (by omega) (fun j hj2 => (Nat.lt_succ_iff_lt_or_eq.mp hj2).elim (hj j) (fun e => e ▸ h47))
      · refine g_iconst (nI 1) dX5_layFault_50 rfl ?_
        exact g_ireturn dX5_layFault_51 rfl rfl (by rw [hr, if_neg (fun q => h47 (q i (by omega)))])
theorem c_layFault_3 (μ : Mm) {w n l : Nat} (hn : μ.1 1 2 = nI n) (h60 : n ≤ 60) (hw : w < 3) (hl : μ.1 2 2 = nI l) (hl60 : l ≤ 60) (hk : μ.1 2 1 ≠ -1) : Ok mX5_layFault (rmL 1) [.ref 0, .int (nI w)] μ (some (.int (if (∀ i, i < n → fitP w (rdF (μ.1 11) l i)) then nI 0 else nI 1)), μ) := by
  refine Ok.of (by decide) (Nat.le_of_ble_eq_true rfl) [some (.ref 0), some (.int (nI w)), none] rfl ?_
  refine g_iload_n 1 _ dX5_layFault_0 rfl rfl ?_
  refine g_backi (g_runSN (c_isRow μ (nI w)) rfl mw_X1_isRow ms_X1_isRow mn_X5_93 ⟨rfl, rfl, Nat.le_of_ble_eq_true rfl, Nat.le_of_ble_eq_true rfl⟩ rfl rfl (Nat.le_of_ble_eq_true rfl) dX5_layFault_1) ?_
  refine g_if_neB 9 dX5_layFault_4 (by decide) (fun h4 => ?_) (fun h4 => ?_)
  · refine g_aload_n 0 _ dX5_layFault_9 rfl rfl ?_
    refine gf_X5_19 rfl dX5_layFault_10 ?_
    refine gf_X5_67 rfl dX5_layFault_13 ?_
    refine g_iconst (-1) dX5_layFault_16 rfl ?_
    refine g_icmp_ne 22 dX5_layFault_17 (by decide) (fun h17 => ?_) (fun h17 => ?_)
    · refine g_iconst (nI 0) dX5_layFault_22 rfl ?_
      refine g_istore_n [some (.ref 0), some (.int (nI w)), some (.int (nI 0))] dX5_layFault_23 rfl (Nat.le_of_ble_eq_true rfl) rfl rfl ?_
      exact c_layFault_l hn h60 hw hl hl60 _ rfl (n + 1) 0 (by omega) (by omega) (fun j h => absurd h (by omega))
    · exact absurd h17 hk
  · exact absurd ⟨nI_pos (by omega), nI_le (by omega) (by omega)⟩ h4
theorem c_lay_no (μ : Mm) (a : Int32) {f : Int32} (hf : f ≠ 0) (h : Ok mX5_layFault (rmL 1) [.ref 0, .int a] μ (some (.int f), μ)) : Ok mX5_lay (rmL 2) [.ref 0, .int a] μ (some (.int (nI 0)), sI μ 0 5 f) := by
  refine Ok.of (by decide) (Nat.le_of_ble_eq_true rfl) [some (.ref 0), some (.int a), none] rfl ?_
  refine g_aload_n 0 _ dX5_lay_0 rfl rfl ?_
  refine g_aload_n 0 _ dX5_lay_1 rfl rfl ?_
  refine g_iload_n 1 _ dX5_lay_2 rfl rfl ?_
  refine g_backi (g_runV (h) rfl mw_X5_layFault mi_X5_layFault ml_X5_73 isO_0 ⟨rfl, rfl, Nat.le_of_ble_eq_true rfl, Nat.le_of_ble_eq_true rfl⟩ rfl rfl (Nat.le_of_ble_eq_true rfl) dX5_lay_3) ?_
  refine g_backi (g_runV (c_refuses1 μ hf) rfl mw_X5_refuses mi_X5_refuses ml_X5_48 isO_0 ⟨rfl, rfl, Nat.le_of_ble_eq_true rfl, Nat.le_of_ble_eq_true rfl⟩ rfl rfl (Nat.le_of_ble_eq_true rfl) dX5_lay_6) ?_
  refine g_if_eqN 14 (by omega) dX5_lay_9 (by decide) (fun h9 => ?_) (fun h9 => ?_)
  · exact absurd h9 (by omega)
  · refine g_iconst (nI 0) dX5_lay_12 rfl ?_
    exact g_ireturn dX5_lay_13 rfl rfl rfl
/-- behind lay: drop, forget -/
def layM (μ : Mm) (w : Nat) : Mm := if w = 0 then sI (sI (sI μ 2 1 (-1)) 2 2 0) 3 4 0 else sI (sI μ 2 1 (-1)) 2 2 0
theorem c_lay_z (μ : Mm) {w n : Nat} (hw : w < 3) : G mX5_lay (rmL 2) (some (.int (nI 1)), layM μ w) μ 50 [some (.ref 0), some (.int (nI w)), some (.int (nI n))] [] := by
  by_cases h0 : w = 0
  · subst h0
    refine g_aload_n 0 _ dX5_lay_50 rfl rfl ?_
    refine gf_X5_19 rfl dX5_lay_51 ?_
    refine g_backv (g_runVN (c_drop μ) rfl mw_X3_drop mi_X3_drop mn_X5_87 isO_2 ⟨rfl, rfl, Nat.le_of_ble_eq_true rfl, Nat.le_of_ble_eq_true rfl⟩ rfl rfl (Nat.le_of_ble_eq_true rfl) dX5_lay_54) ?_
    refine g_aload_n 0 _ dX5_lay_57 rfl rfl ?_
    refine g_iload_n 1 _ dX5_lay_58 rfl rfl ?_
    refine g_backv (g_runV (c_forget0 (sI (sI μ 2 1 (-1)) 2 2 0)) rfl mw_X5_forgetBackOf mi_X5_forgetBackOf ml_X5_90 isO_0 ⟨rfl, rfl, Nat.le_of_ble_eq_true rfl, Nat.le_of_ble_eq_true rfl⟩ rfl rfl (Nat.le_of_ble_eq_true rfl) dX5_lay_59) ?_
    refine g_iconst (nI 1) dX5_lay_62 rfl ?_
    refine g_at 63 rfl ?_
    exact g_ireturn dX5_lay_63 rfl rfl rfl
  · refine g_aload_n 0 _ dX5_lay_50 rfl rfl ?_
    refine gf_X5_19 rfl dX5_lay_51 ?_
    refine g_backv (g_runVN (c_drop μ) rfl mw_X3_drop mi_X3_drop mn_X5_87 isO_2 ⟨rfl, rfl, Nat.le_of_ble_eq_true rfl, Nat.le_of_ble_eq_true rfl⟩ rfl rfl (Nat.le_of_ble_eq_true rfl) dX5_lay_54) ?_
    refine g_aload_n 0 _ dX5_lay_57 rfl rfl ?_
    refine g_iload_n 1 _ dX5_lay_58 rfl rfl ?_
    refine g_backv (g_runV (c_forget1 (sI (sI μ 2 1 (-1)) 2 2 0) (w := w) (by omega) hw) rfl mw_X5_forgetBackOf mi_X5_forgetBackOf ml_X5_90 isO_0 ⟨rfl, rfl, Nat.le_of_ble_eq_true rfl, Nat.le_of_ble_eq_true rfl⟩ rfl rfl (Nat.le_of_ble_eq_true rfl) dX5_lay_59) ?_
    refine g_iconst (nI 1) dX5_lay_62 rfl ?_
    refine g_at 63 rfl ?_
    exact g_ireturn dX5_lay_63 rfl rfl (by unfold layM; rw [if_neg h0])
theorem c_lay_l {μ : Mm} {w n l : Nat} (hn : μ.1 1 2 = nI n) (h60 : n ≤ 60) (hw : w < 3) (hl : μ.1 2 2 = nI l) (hl60 : l ≤ 60) : ∀ (m i : Nat), i ≤ n → n < i + m → G mX5_lay (rmL 2) (some (.int (nI 1)), layM (sR μ (7 + w) (fil (μ.1 (7 + w)) (rdF (μ.1 11) l) n)) w) (sR μ (7 + w) (fil (μ.1 (7 + w)) (rdF (μ.1 11) l) i)) 16 [some (.ref 0), some (.int (nI w)), some (.int (nI i))] [] := by
  intro m
  induction m with
  | zero => exact fun i h1 h2 => absurd h2 (by omega)
  | succ m ih =>
    intro i h1 h2
    have e1 : (sR μ (7 + w) (fil (μ.1 (7 + w)) (rdF (μ.1 11) l) i)).1 1 2 = nI n := by rw [sR_1 (by omega)]; exact hn
    have e2 : (sR μ (7 + w) (fil (μ.1 (7 + w)) (rdF (μ.1 11) l) i)).1 2 2 = nI l := by rw [sR_1 (by omega)]; exact hl
    refine g_iload_n 2 _ dX5_lay_16 rfl rfl ?_
    refine g_aload_n 0 _ dX5_lay_17 rfl rfl ?_
    refine gf_X5_10 rfl dX5_lay_18 ?_
    refine gf_X5_77 rfl dX5_lay_21 ?_
    refine g_top (w := .int (nI n)) (congrArg Value.int e1) ?_
    refine g_icmp_geN 50 (by omega) (by omega) dX5_lay_24 (by decide) (fun h24 => ?_) (fun h24 => ?_)
    · rw [show i = n by omega]; exact c_lay_z _ hw
    · refine g_aload_n 0 _ dX5_lay_27 rfl rfl ?_
      refine gf_X5_10 rfl dX5_lay_28 ?_
      refine g_iload_n 1 _ dX5_lay_31 rfl rfl ?_
      refine g_iload_n 2 _ dX5_lay_32 rfl rfl ?_
      refine g_aload_n 0 _ dX5_lay_33 rfl rfl ?_
      refine gf_X5_19 rfl dX5_lay_34 ?_
      refine g_iload_n 2 _ dX5_lay_37 rfl rfl ?_
      refine g_at 38 rfl ?_
      refine g_backi (g_runVN ((c_read _ (i := i) (by omega) e2 hl60).to (by rw [sR_1 (by omega)])) rfl mw_X3_read mi_X3_read mn_X5_80 isO_2 ⟨rfl, rfl, Nat.le_of_ble_eq_true rfl, Nat.le_of_ble_eq_true rfl⟩ rfl rfl (Nat.le_of_ble_eq_true rfl) dX5_lay_38) ?_
      refine g_backv (g_runVN (c_put _ (rdF (μ.1 11) l i) hw (show i < 60 by omega)) rfl mw_X1_put mi_X1_put mn_X5_83 isO_1 ⟨rfl, rfl, Nat.le_of_ble_eq_true rfl, Nat.le_of_ble_eq_true rfl⟩ rfl rfl (Nat.le_of_ble_eq_true rfl) dX5_lay_41) ?_
      refine g_mem (sR_fil μ (7 + w) i _ (rdF (μ.1 11) l) rfl) ?_
      refine g_iincN [some (.ref 0), some (.int (nI w)), some (.int (nI (i + 1)))] dX5_lay_44 rfl (Nat.le_of_ble_eq_true rfl) rfl rfl ?_
      refine g_goto 16 dX5_lay_47 (by decide) ?_
      exact ih (i + 1) (by omega) (by omega)
theorem c_lay_ok (μ : Mm) {w n l : Nat} (hn : μ.1 1 2 = nI n) (h60 : n ≤ 60) (hw : w < 3) (hl : μ.1 2 2 = nI l) (hl60 : l ≤ 60) (hk : μ.1 2 1 ≠ -1) (hf : ∀ i, i < n → fitP w (rdF (μ.1 11) l i)) : Ok mX5_lay (rmL 2) [.ref 0, .int (nI w)] μ (some (.int (nI 1)), layM (sR (sI μ 0 5 0) (7 + w) (fil (μ.1 (7 + w)) (rdF (μ.1 11) l) n)) w) := by
  have e7 : (sI μ 0 5 0).1 (7 + w) = μ.1 (7 + w) := sI_1 (by omega)
  refine Ok.of (by decide) (Nat.le_of_ble_eq_true rfl) [some (.ref 0), some (.int (nI w)), none] rfl ?_
  refine g_aload_n 0 _ dX5_lay_0 rfl rfl ?_
  refine g_aload_n 0 _ dX5_lay_1 rfl rfl ?_
  refine g_iload_n 1 _ dX5_lay_2 rfl rfl ?_
  refine g_backi (g_runV ((c_layFault_3 μ hn h60 hw hl hl60 hk).to (by rw [if_pos hf])) rfl mw_X5_layFault mi_X5_layFault ml_X5_73 isO_0 ⟨rfl, rfl, Nat.le_of_ble_eq_true rfl, Nat.le_of_ble_eq_true rfl⟩ rfl rfl (Nat.le_of_ble_eq_true rfl) dX5_lay_3) ?_
  refine g_backi (g_runV (c_refuses0 μ) rfl mw_X5_refuses mi_X5_refuses ml_X5_48 isO_0 ⟨rfl, rfl, Nat.le_of_ble_eq_true rfl, Nat.le_of_ble_eq_true rfl⟩ rfl rfl (Nat.le_of_ble_eq_true rfl) dX5_lay_6) ?_
  refine g_if_eqN 14 (by omega) dX5_lay_9 (by decide) (fun h9 => ?_) (fun h9 => ?_)
  · refine g_iconst (nI 0) dX5_lay_14 rfl ?_
    refine g_istore_n [some (.ref 0), some (.int (nI w)), some (.int (nI 0))] dX5_lay_15 rfl (Nat.le_of_ble_eq_true rfl) rfl rfl ?_
    have h := c_lay_l (μ := sI μ 0 5 0) hn h60 hw hl hl60 (n + 1) 0 (by omega) (by omega); rw [fil_0, sR_id, e7] at h; exact h
  · exact absurd h9 (by omega)
theorem nat_of {a : Int32} {N : Nat} (h0 : 0 ≤ a.toInt) (h1 : a.toInt ≤ N) (hN : N < 2 ^ 31) : ∃ w : Nat, w ≤ N ∧ a = nI w := ⟨a.toInt.toNat, by omega, i32_ext (by rw [nI_toInt (by omega)]; omega)⟩
theorem c_set_no (μ : Mm) (a b v : Int32) {n : Nat} (hn : μ.1 1 2 = nI n) (h : ¬ (0 ≤ a.toInt ∧ a.toInt ≤ 2 ∧ 0 ≤ b.toInt ∧ b.toInt < (nI n).toInt ∧ fitP a.toNatClampNeg v)) : Ok mX5_set (rmL 1) [.ref 0, .int a, .int b, .int v] μ (some (.int (nI 0)), sI μ 0 5 (nI 1)) := by
  by_cases ha : 0 ≤ a.toInt ∧ a.toInt ≤ 2
  · obtain ⟨w, hw, rfl⟩ := nat_of (N := 2) ha.1 ha.2 (by decide)
    rw [nI_clamp (by omega)] at h
    refine Ok.of (by decide) (Nat.le_of_ble_eq_true rfl) [some (.ref 0), some (.int (nI w)), some (.int b), some (.int v), none] rfl ?_
    refine g_iload_n 1 _ dX5_set_0 rfl rfl ?_
    refine g_backi (g_runSN (c_isRow μ (nI w)) rfl mw_X1_isRow ms_X1_isRow mn_X5_93 ⟨rfl, rfl, Nat.le_of_ble_eq_true rfl, Nat.le_of_ble_eq_true rfl⟩ rfl rfl (Nat.le_of_ble_eq_true rfl) dX5_set_1) ?_
    refine g_if_eqB 30 dX5_set_4 (by decide) (fun h4 => ?_) (fun h4 => ?_)
    · refine g_iconst (nI 0) dX5_set_30 rfl ?_
      refine g_istore [some (.ref 0), some (.int (nI w)), some (.int b), some (.int v), some (.int (nI 0))] dX5_set_31 (Nat.le_of_ble_eq_true rfl) rfl rfl ?_
      refine g_aload_n 0 _ dX5_set_33 rfl rfl ?_
      refine g_iload _ dX5_set_34 rfl ?_
      refine g_if_eqN 43 (by omega) dX5_set_36 (by decide) (fun h36 => ?_) (fun h36 => ?_)
      · refine g_iconst (nI 1) dX5_set_43 rfl ?_
        refine g_backi (g_runV (c_refuses1 μ (f := nI 1) (by decide)) rfl mw_X5_refuses mi_X5_refuses ml_X5_48 isO_0 ⟨rfl, rfl, Nat.le_of_ble_eq_true rfl, Nat.le_of_ble_eq_true rfl⟩ rfl rfl (Nat.le_of_ble_eq_true rfl) dX5_set_44) ?_
        refine g_if_eqN 52 (by omega) dX5_set_47 (by decide) (fun h47 => ?_) (fun h47 => ?_)
        · exact absurd h47 (by omega)
        · refine g_iconst (nI 0) dX5_set_50 rfl ?_
          exact g_ireturn dX5_set_51 rfl rfl rfl
      · exact absurd h36 (by omega)
    · refine g_aload_n 0 _ dX5_set_7 rfl rfl ?_
      refine gf_X5_10 rfl dX5_set_8 ?_
      refine g_iload_n 2 _ dX5_set_11 rfl rfl ?_
      refine g_backi (g_runVN (c_has μ b hn) rfl mw_X1_has mi_X1_has mn_X5_96 isO_1 ⟨rfl, rfl, Nat.le_of_ble_eq_true rfl, Nat.le_of_ble_eq_true rfl⟩ rfl rfl (Nat.le_of_ble_eq_true rfl) dX5_set_12) ?_
      refine g_if_eqB 30 dX5_set_15 (by decide) (fun h15 => ?_) (fun h15 => ?_)
      · refine g_iconst (nI 0) dX5_set_30 rfl ?_
        refine g_istore [some (.ref 0), some (.int (nI w)), some (.int b), some (.int v), some (.int (nI 0))] dX5_set_31 (Nat.le_of_ble_eq_true rfl) rfl rfl ?_
        refine g_aload_n 0 _ dX5_set_33 rfl rfl ?_
        refine g_iload _ dX5_set_34 rfl ?_
        refine g_if_eqN 43 (by omega) dX5_set_36 (by decide) (fun h36 => ?_) (fun h36 => ?_)
        · refine g_iconst (nI 1) dX5_set_43 rfl ?_
          refine g_backi (g_runV (c_refuses1 μ (f := nI 1) (by decide)) rfl mw_X5_refuses mi_X5_refuses ml_X5_48 isO_0 ⟨rfl, rfl, Nat.le_of_ble_eq_true rfl, Nat.le_of_ble_eq_true rfl⟩ rfl rfl (Nat.le_of_ble_eq_true rfl) dX5_set_44) ?_
          refine g_if_eqN 52 (by omega) dX5_set_47 (by decide) (fun h47 => ?_) (fun h47 => ?_)
          · exact absurd h47 (by omega)
          · refine g_iconst (nI 0) dX5_set_50 rfl ?_
            exact g_ireturn dX5_set_51 rfl rfl rfl
        · exact absurd h36 (by omega)
      · refine g_iload_n 1 _ dX5_set_18 rfl rfl ?_
        refine g_iload_n 3 _ dX5_set_19 rfl rfl ?_
        refine g_backi (g_runSN (c_fits μ v (show w < 3 by omega)) rfl mw_X1_fits ms_X1_fits mn_X5_99 ⟨rfl, rfl, Nat.le_of_ble_eq_true rfl, Nat.le_of_ble_eq_true rfl⟩ rfl rfl (Nat.le_of_ble_eq_true rfl) dX5_set_20) ?_
        refine g_if_eqB 30 dX5_set_23 (by decide) (fun h23 => ?_) (fun h23 => ?_)
        · refine g_iconst (nI 0) dX5_set_30 rfl ?_
          refine g_istore [some (.ref 0), some (.int (nI w)), some (.int b), some (.int v), some (.int (nI 0))] dX5_set_31 (Nat.le_of_ble_eq_true rfl) rfl rfl ?_
          refine g_aload_n 0 _ dX5_set_33 rfl rfl ?_
          refine g_iload _ dX5_set_34 rfl ?_
          refine g_if_eqN 43 (by omega) dX5_set_36 (by decide) (fun h36 => ?_) (fun h36 => ?_)
          · refine g_iconst (nI 1) dX5_set_43 rfl ?_
            refine g_backi (g_runV (c_refuses1 μ (f := nI 1) (by decide)) rfl mw_X5_refuses mi_X5_refuses ml_X5_48 isO_0 ⟨rfl, rfl, Nat.le_of_ble_eq_true rfl, Nat.le_of_ble_eq_true rfl⟩ rfl rfl (Nat.le_of_ble_eq_true rfl) dX5_set_44) ?_
            refine g_if_eqN 52 (by omega) dX5_set_47 (by decide) (fun h47 => ?_) (fun h47 => ?_)
            · exact absurd h47 (by omega)
            · refine g_iconst (nI 0) dX5_set_50 rfl ?_
              exact g_ireturn dX5_set_51 rfl rfl rfl
          · exact absurd h36 (by omega)
        · exact absurd ⟨ha.1, ha.2, by have := h15.1; rw [fa_lt, t0] at this; omega, by have := h15.2; rw [fa_lt] at this; exact this, h23⟩ h
  · refine Ok.of (by decide) (Nat.le_of_ble_eq_true rfl) [some (.ref 0), some (.int a), some (.int b), some (.int v), none] rfl ?_
    refine g_iload_n 1 _ dX5_set_0 rfl rfl ?_
    refine g_backi (g_runSN (c_isRow μ a) rfl mw_X1_isRow ms_X1_isRow mn_X5_93 ⟨rfl, rfl, Nat.le_of_ble_eq_true rfl, Nat.le_of_ble_eq_true rfl⟩ rfl rfl (Nat.le_of_ble_eq_true rfl) dX5_set_1) ?_
    refine g_if_eqB 30 dX5_set_4 (by decide) (fun h4 => ?_) (fun h4 => ?_)
    · refine g_iconst (nI 0) dX5_set_30 rfl ?_
      refine g_istore [some (.ref 0), some (.int a), some (.int b), some (.int v), some (.int (nI 0))] dX5_set_31 (Nat.le_of_ble_eq_true rfl) rfl rfl ?_
      refine g_aload_n 0 _ dX5_set_33 rfl rfl ?_
      refine g_iload _ dX5_set_34 rfl ?_
      refine g_if_eqN 43 (by omega) dX5_set_36 (by decide) (fun h36 => ?_) (fun h36 => ?_)
      · refine g_iconst (nI 1) dX5_set_43 rfl ?_
        refine g_backi (g_runV (c_refuses1 μ (f := nI 1) (by decide)) rfl mw_X5_refuses mi_X5_refuses ml_X5_48 isO_0 ⟨rfl, rfl, Nat.le_of_ble_eq_true rfl, Nat.le_of_ble_eq_true rfl⟩ rfl rfl (Nat.le_of_ble_eq_true rfl) dX5_set_44) ?_
        refine g_if_eqN 52 (by omega) dX5_set_47 (by decide) (fun h47 => ?_) (fun h47 => ?_)
        · exact absurd h47 (by omega)
        · refine g_iconst (nI 0) dX5_set_50 rfl ?_
          exact g_ireturn dX5_set_51 rfl rfl rfl
      · exact absurd h36 (by omega)
    · exfalso; simp only [ne_eq, fa_lt, fa_le, fa_eq, t0, t1, t2, tm1, nt0, nt1, nt2, nt3, nt4, nt5, nt7, nt9, nt10, nt13, nt14, nt30, nt32, nt59, nt60, nt200, nt1000, nt1000000, nt1073741824] at *; omega
def setM (μ : Mm) (w j : Nat) (v : Int32) : Mm := if w = 0 then sI (sI (sI μ 0 5 0) 7 j v) 3 4 0 else sI (sI μ 0 5 0) (7 + w) j v
theorem c_set_z (μ : Mm) {w j : Nat} {v : Int32} (hw : w < 3) : G mX5_set (rmL 1) (some (.int (nI 1)), setM μ w j v) (sI (sI μ 0 5 0) (7 + w) j v) 62 [some (.ref 0), some (.int (nI w)), some (.int (nI j)), some (.int v), some (.int (nI 1))] [] := by
  by_cases h0 : w = 0
  · subst h0
    refine g_aload_n 0 _ dX5_set_62 rfl rfl ?_
    refine g_iload_n 1 _ dX5_set_63 rfl rfl ?_
    refine g_backv (g_runV (c_forget0 (sI (sI μ 0 5 0) (7 + 0) j v)) rfl mw_X5_forgetBackOf mi_X5_forgetBackOf ml_X5_90 isO_0 ⟨rfl, rfl, Nat.le_of_ble_eq_true rfl, Nat.le_of_ble_eq_true rfl⟩ rfl rfl (Nat.le_of_ble_eq_true rfl) dX5_set_64) ?_
    refine g_iconst (nI 1) dX5_set_67 rfl ?_
    exact g_ireturn dX5_set_68 rfl rfl rfl
  · refine g_aload_n 0 _ dX5_set_62 rfl rfl ?_
    refine g_iload_n 1 _ dX5_set_63 rfl rfl ?_
    refine g_backv (g_runV (c_forget1 (sI (sI μ 0 5 0) (7 + w) j v) (w := w) (by omega) hw) rfl mw_X5_forgetBackOf mi_X5_forgetBackOf ml_X5_90 isO_0 ⟨rfl, rfl, Nat.le_of_ble_eq_true rfl, Nat.le_of_ble_eq_true rfl⟩ rfl rfl (Nat.le_of_ble_eq_true rfl) dX5_set_64) ?_
    refine g_iconst (nI 1) dX5_set_67 rfl ?_
    exact g_ireturn dX5_set_68 rfl rfl (by unfold setM; rw [if_neg h0])
theorem c_set_ok (μ : Mm) {w j n : Nat} (v : Int32) (hn : μ.1 1 2 = nI n) (h60 : n ≤ 60) (hw : w < 3) (hj : j < n) (hf : fitP w v) : Ok mX5_set (rmL 1) [.ref 0, .int (nI w), .int (nI j), .int v] μ (some (.int (nI 1)), setM μ w j v) := by
  refine Ok.of (by decide) (Nat.le_of_ble_eq_true rfl) [some (.ref 0), some (.int (nI w)), some (.int (nI j)), some (.int v), none] rfl ?_
  refine g_iload_n 1 _ dX5_set_0 rfl rfl ?_
  refine g_backi (g_runSN ((c_isRow μ (nI w)).to (by rw [bI_t ⟨nI_pos (by omega), nI_le (by omega) (by omega)⟩])) rfl mw_X1_isRow ms_X1_isRow mn_X5_93 ⟨rfl, rfl, Nat.le_of_ble_eq_true rfl, Nat.le_of_ble_eq_true rfl⟩ rfl rfl (Nat.le_of_ble_eq_true rfl) dX5_set_1) ?_
  refine g_if_eq 30 dX5_set_4 (by decide) (fun h4 => ?_) (fun h4 => ?_)
  · exact absurd h4 (by decide)
  · refine g_aload_n 0 _ dX5_set_7 rfl rfl ?_
    refine gf_X5_10 rfl dX5_set_8 ?_
    refine g_iload_n 2 _ dX5_set_11 rfl rfl ?_
    refine g_backi (g_runVN ((c_has μ (nI j) hn).to (by rw [bI_t ⟨nI_pos (by omega), nI_lt hj (by omega)⟩])) rfl mw_X1_has mi_X1_has mn_X5_96 isO_1 ⟨rfl, rfl, Nat.le_of_ble_eq_true rfl, Nat.le_of_ble_eq_true rfl⟩ rfl rfl (Nat.le_of_ble_eq_true rfl) dX5_set_12) ?_
    refine g_if_eq 30 dX5_set_15 (by decide) (fun h15 => ?_) (fun h15 => ?_)
    · exact absurd h15 (by decide)
    · refine g_iload_n 1 _ dX5_set_18 rfl rfl ?_
      refine g_iload_n 3 _ dX5_set_19 rfl rfl ?_
      refine g_backi (g_runSN ((c_fits μ v hw).to (by rw [bI_t hf])) rfl mw_X1_fits ms_X1_fits mn_X5_99 ⟨rfl, rfl, Nat.le_of_ble_eq_true rfl, Nat.le_of_ble_eq_true rfl⟩ rfl rfl (Nat.le_of_ble_eq_true rfl) dX5_set_20) ?_
      refine g_if_eq 30 dX5_set_23 (by decide) (fun h23 => ?_) (fun h23 => ?_)
      · exact absurd h23 (by decide)
      · refine g_iconst (nI 1) dX5_set_26 rfl ?_
        refine g_goto 31 dX5_set_27 (by decide) ?_
        refine g_istore [some (.ref 0), some (.int (nI w)), some (.int (nI j)), some (.int v), some (.int (nI 1))] dX5_set_31 (Nat.le_of_ble_eq_true rfl) rfl rfl ?_
        refine g_aload_n 0 _ dX5_set_33 rfl rfl ?_
        refine g_iload _ dX5_set_34 rfl ?_
        refine g_if_eqN 43 (by omega) dX5_set_36 (by decide) (fun h36 => ?_) (fun h36 => ?_)
        · exact absurd h36 (by omega)
        · refine g_iconst (nI 0) dX5_set_39 rfl ?_
          refine g_goto 44 dX5_set_40 (by decide) ?_
          refine g_backi (g_runV (c_refuses0 μ) rfl mw_X5_refuses mi_X5_refuses ml_X5_48 isO_0 ⟨rfl, rfl, Nat.le_of_ble_eq_true rfl, Nat.le_of_ble_eq_true rfl⟩ rfl rfl (Nat.le_of_ble_eq_true rfl) dX5_set_44) ?_
          refine g_if_eqN 52 (by omega) dX5_set_47 (by decide) (fun h47 => ?_) (fun h47 => ?_)
          · refine g_aload_n 0 _ dX5_set_52 rfl rfl ?_
            refine gf_X5_10 rfl dX5_set_53 ?_
            refine g_iload_n 1 _ dX5_set_56 rfl rfl ?_
            refine g_iload_n 2 _ dX5_set_57 rfl rfl ?_
            refine g_iload_n 3 _ dX5_set_58 rfl rfl ?_
            refine g_backv (g_runVN (c_put _ v hw (show j < 60 by omega)) rfl mw_X1_put mi_X1_put mn_X5_83 isO_1 ⟨rfl, rfl, Nat.le_of_ble_eq_true rfl, Nat.le_of_ble_eq_true rfl⟩ rfl rfl (Nat.le_of_ble_eq_true rfl) dX5_set_59) ?_
            exact c_set_z _ hw
          · exact absurd h47 (by omega)
theorem c_miss_no (μ : Mm) (a : Int32) {n : Nat} (hn : μ.1 1 2 = nI n) (h : ¬ (0 ≤ a.toInt ∧ a.toInt < (nI n).toInt)) : Ok mX5_miss (rmL 1) [.ref 0, .int a] μ (some (.int (nI 0)), sI μ 0 5 (nI 1)) := by
  refine Ok.of (by decide) (Nat.le_of_ble_eq_true rfl) [some (.ref 0), some (.int a)] rfl ?_
  refine g_aload_n 0 _ dX5_miss_0 rfl rfl ?_
  refine g_aload_n 0 _ dX5_miss_1 rfl rfl ?_
  refine gf_X5_10 rfl dX5_miss_2 ?_
  refine g_iload_n 1 _ dX5_miss_5 rfl rfl ?_
  refine g_backi (g_runVN (c_has μ a hn) rfl mw_X1_has mi_X1_has mn_X5_96 isO_1 ⟨rfl, rfl, Nat.le_of_ble_eq_true rfl, Nat.le_of_ble_eq_true rfl⟩ rfl rfl (Nat.le_of_ble_eq_true rfl) dX5_miss_6) ?_
  refine g_if_eqB 16 dX5_miss_9 (by decide) (fun h9 => ?_) (fun h9 => ?_)
  · refine g_iconst (nI 1) dX5_miss_16 rfl ?_
    refine g_backi (g_runV (c_refuses1 μ (f := nI 1) (by decide)) rfl mw_X5_refuses mi_X5_refuses ml_X5_48 isO_0 ⟨rfl, rfl, Nat.le_of_ble_eq_true rfl, Nat.le_of_ble_eq_true rfl⟩ rfl rfl (Nat.le_of_ble_eq_true rfl) dX5_miss_17) ?_
    refine g_if_eqN 25 (by omega) dX5_miss_20 (by decide) (fun h20 => ?_) (fun h20 => ?_)
    · exact absurd h20 (by omega)
    · refine g_iconst (nI 0) dX5_miss_23 rfl ?_
      exact g_ireturn dX5_miss_24 rfl rfl rfl
  · exfalso; simp only [ne_eq, fa_lt, fa_le, fa_eq, t0, t1, t2, tm1, nt0, nt1, nt2, nt3, nt4, nt5, nt7, nt9, nt10, nt13, nt14, nt30, nt32, nt59, nt60, nt200, nt1000, nt1000000, nt1073741824] at *; omega
theorem c_miss_ok (μ : Mm) {j n : Nat} (hn : μ.1 1 2 = nI n) (h60 : n ≤ 60) (hj : j < n) : Ok mX5_miss (rmL 1) [.ref 0, .int (nI j)] μ (some (.int (nI 1)), sI (sI μ 0 5 0) 9 j (nI 1073741824)) := by
  refine Ok.of (by decide) (Nat.le_of_ble_eq_true rfl) [some (.ref 0), some (.int (nI j))] rfl ?_
  refine g_aload_n 0 _ dX5_miss_0 rfl rfl ?_
  refine g_aload_n 0 _ dX5_miss_1 rfl rfl ?_
  refine gf_X5_10 rfl dX5_miss_2 ?_
  refine g_iload_n 1 _ dX5_miss_5 rfl rfl ?_
  refine g_backi (g_runVN ((c_has μ (nI j) hn).to (by rw [bI_t ⟨nI_pos (by omega), nI_lt hj (by omega)⟩])) rfl mw_X1_has mi_X1_has mn_X5_96 isO_1 ⟨rfl, rfl, Nat.le_of_ble_eq_true rfl, Nat.le_of_ble_eq_true rfl⟩ rfl rfl (Nat.le_of_ble_eq_true rfl) dX5_miss_6) ?_
  refine g_if_eq 16 dX5_miss_9 (by decide) (fun h9 => ?_) (fun h9 => ?_)
  · exact absurd h9 (by decide)
  · refine g_iconst (nI 0) dX5_miss_12 rfl ?_
    refine g_goto 17 dX5_miss_13 (by decide) ?_
    refine g_backi (g_runV (c_refuses0 μ) rfl mw_X5_refuses mi_X5_refuses ml_X5_48 isO_0 ⟨rfl, rfl, Nat.le_of_ble_eq_true rfl, Nat.le_of_ble_eq_true rfl⟩ rfl rfl (Nat.le_of_ble_eq_true rfl) dX5_miss_17) ?_
    refine g_if_eqN 25 (by omega) dX5_miss_20 (by decide) (fun h20 => ?_) (fun h20 => ?_)
    · refine g_aload_n 0 _ dX5_miss_25 rfl rfl ?_
      refine gf_X5_10 rfl dX5_miss_26 ?_
      refine g_iconst (nI 2) dX5_miss_29 rfl ?_
      refine g_iload_n 1 _ dX5_miss_30 rfl rfl ?_
      refine g_ldc _ rfl kc_X5_103 dX5_miss_31 ?_
      refine g_top (w := .int (nI 1073741824)) rfl ?_
      refine g_backv (g_runVN (c_put (w := 2) _ (nI 1073741824) (by decide) (show j < 60 by omega)) rfl mw_X1_put mi_X1_put mn_X5_83 isO_1 ⟨rfl, rfl, Nat.le_of_ble_eq_true rfl, Nat.le_of_ble_eq_true rfl⟩ rfl rfl (Nat.le_of_ble_eq_true rfl) dX5_miss_33) ?_
      refine g_iconst (nI 1) dX5_miss_36 rfl ?_
      refine g_at 37 rfl ?_
      exact g_ireturn dX5_miss_37 rfl rfl rfl
    · exact absurd h20 (by omega)
theorem c_shadow_no (μ : Mm) (a : Int32) {n : Nat} (hn : μ.1 1 2 = nI n) (h : ¬ (0 ≤ a.toInt ∧ a.toInt < (nI n).toInt)) : Ok mX5_shadow (rmL 3) [.ref 0, .int a] μ (some (.int (nI 0)), sI μ 0 5 (nI 1)) := by
  refine Ok.of (by decide) (Nat.le_of_ble_eq_true rfl) [some (.ref 0), some (.int a)] rfl ?_
  refine g_aload_n 0 _ dX5_shadow_0 rfl rfl ?_
  refine g_aload_n 0 _ dX5_shadow_1 rfl rfl ?_
  refine gf_X5_10 rfl dX5_shadow_2 ?_
  refine g_iload_n 1 _ dX5_shadow_5 rfl rfl ?_
  refine g_backi (g_runVN (c_has μ a hn) rfl mw_X1_has mi_X1_has mn_X5_96 isO_1 ⟨rfl, rfl, Nat.le_of_ble_eq_true rfl, Nat.le_of_ble_eq_true rfl⟩ rfl rfl (Nat.le_of_ble_eq_true rfl) dX5_shadow_6) ?_
  refine g_if_eqB 16 dX5_shadow_9 (by decide) (fun h9 => ?_) (fun h9 => ?_)
  · refine g_iconst (nI 1) dX5_shadow_16 rfl ?_
    refine g_backi (g_runV (c_refuses1 μ (f := nI 1) (by decide)) rfl mw_X5_refuses mi_X5_refuses ml_X5_48 isO_0 ⟨rfl, rfl, Nat.le_of_ble_eq_true rfl, Nat.le_of_ble_eq_true rfl⟩ rfl rfl (Nat.le_of_ble_eq_true rfl) dX5_shadow_17) ?_
    refine g_if_eqN 25 (by omega) dX5_shadow_20 (by decide) (fun h20 => ?_) (fun h20 => ?_)
    · exact absurd h20 (by omega)
    · refine g_iconst (nI 0) dX5_shadow_23 rfl ?_
      exact g_ireturn dX5_shadow_24 rfl rfl rfl
  · exfalso; simp only [ne_eq, fa_lt, fa_le, fa_eq, t0, t1, t2, tm1, nt0, nt1, nt2, nt3, nt4, nt5, nt7, nt9, nt10, nt13, nt14, nt30, nt32, nt59, nt60, nt200, nt1000, nt1000000, nt1073741824] at *; omega
theorem c_shadow_ok (μ : Mm) {j n : Nat} (hn : μ.1 1 2 = nI n) (h60 : n ≤ 60) (hj : j < n) : Ok mX5_shadow (rmL 3) [.ref 0, .int (nI j)] μ (some (.int (thr (μ.1 7) (μ.1 8) n j n)), sI μ 0 5 0) := by
  refine Ok.of (by decide) (Nat.le_of_ble_eq_true rfl) [some (.ref 0), some (.int (nI j))] rfl ?_
  refine g_aload_n 0 _ dX5_shadow_0 rfl rfl ?_
  refine g_aload_n 0 _ dX5_shadow_1 rfl rfl ?_
  refine gf_X5_10 rfl dX5_shadow_2 ?_
  refine g_iload_n 1 _ dX5_shadow_5 rfl rfl ?_
  refine g_backi (g_runVN ((c_has μ (nI j) hn).to (by rw [bI_t ⟨nI_pos (by omega), nI_lt hj (by omega)⟩])) rfl mw_X1_has mi_X1_has mn_X5_96 isO_1 ⟨rfl, rfl, Nat.le_of_ble_eq_true rfl, Nat.le_of_ble_eq_true rfl⟩ rfl rfl (Nat.le_of_ble_eq_true rfl) dX5_shadow_6) ?_
  refine g_if_eq 16 dX5_shadow_9 (by decide) (fun h9 => ?_) (fun h9 => ?_)
  · exact absurd h9 (by decide)
  · refine g_iconst (nI 0) dX5_shadow_12 rfl ?_
    refine g_goto 17 dX5_shadow_13 (by decide) ?_
    refine g_backi (g_runV (c_refuses0 μ) rfl mw_X5_refuses mi_X5_refuses ml_X5_48 isO_0 ⟨rfl, rfl, Nat.le_of_ble_eq_true rfl, Nat.le_of_ble_eq_true rfl⟩ rfl rfl (Nat.le_of_ble_eq_true rfl) dX5_shadow_17) ?_
    refine g_if_eqN 25 (by omega) dX5_shadow_20 (by decide) (fun h20 => ?_) (fun h20 => ?_)
    · refine g_aload_n 0 _ dX5_shadow_25 rfl rfl ?_
      refine gf_X5_10 rfl dX5_shadow_26 ?_
      refine g_iload_n 1 _ dX5_shadow_29 rfl rfl ?_
      refine g_backi (g_runVN (c_shadowAt (sI μ 0 5 0) (n := n) hn h60 hj) rfl mw_X1_shadowAt mi_X1_shadowAt mn_X5_129 isO_1 ⟨rfl, rfl, Nat.le_of_ble_eq_true rfl, Nat.le_of_ble_eq_true rfl⟩ rfl rfl (Nat.le_of_ble_eq_true rfl) dX5_shadow_30) ?_
      exact g_ireturn dX5_shadow_33 rfl rfl rfl
    · exact absurd h20 (by omega)
theorem c_meets_no (μ : Mm) (a : Int32) {n : Nat} (hn : μ.1 1 2 = nI n) (h : ¬ (0 ≤ a.toInt ∧ a.toInt < (nI n).toInt)) : Ok mX5_meets (rmL 3) [.ref 0, .int a] μ (some (.int (nI 0)), sI μ 0 5 (nI 1)) := by
  refine Ok.of (by decide) (Nat.le_of_ble_eq_true rfl) [some (.ref 0), some (.int a)] rfl ?_
  refine g_aload_n 0 _ dX5_meets_0 rfl rfl ?_
  refine g_aload_n 0 _ dX5_meets_1 rfl rfl ?_
  refine gf_X5_10 rfl dX5_meets_2 ?_
  refine g_iload_n 1 _ dX5_meets_5 rfl rfl ?_
  refine g_backi (g_runVN (c_has μ a hn) rfl mw_X1_has mi_X1_has mn_X5_96 isO_1 ⟨rfl, rfl, Nat.le_of_ble_eq_true rfl, Nat.le_of_ble_eq_true rfl⟩ rfl rfl (Nat.le_of_ble_eq_true rfl) dX5_meets_6) ?_
  refine g_if_eqB 16 dX5_meets_9 (by decide) (fun h9 => ?_) (fun h9 => ?_)
  · refine g_iconst (nI 1) dX5_meets_16 rfl ?_
    refine g_backi (g_runV (c_refuses1 μ (f := nI 1) (by decide)) rfl mw_X5_refuses mi_X5_refuses ml_X5_48 isO_0 ⟨rfl, rfl, Nat.le_of_ble_eq_true rfl, Nat.le_of_ble_eq_true rfl⟩ rfl rfl (Nat.le_of_ble_eq_true rfl) dX5_meets_17) ?_
    refine g_if_eqN 25 (by omega) dX5_meets_20 (by decide) (fun h20 => ?_) (fun h20 => ?_)
    · exact absurd h20 (by omega)
    · refine g_iconst (nI 0) dX5_meets_23 rfl ?_
      exact g_ireturn dX5_meets_24 rfl rfl rfl
  · exfalso; simp only [ne_eq, fa_lt, fa_le, fa_eq, t0, t1, t2, tm1, nt0, nt1, nt2, nt3, nt4, nt5, nt7, nt9, nt10, nt13, nt14, nt30, nt32, nt59, nt60, nt200, nt1000, nt1000000, nt1073741824] at *; omega
theorem c_meets_ok (μ : Mm) {j n : Nat} (hn : μ.1 1 2 = nI n) (h60 : n ≤ 60) (hj : j < n) : Ok mX5_meets (rmL 3) [.ref 0, .int (nI j)] μ (some (.int (thr (μ.1 7) (μ.1 7) n j n)), sI μ 0 5 0) := by
  refine Ok.of (by decide) (Nat.le_of_ble_eq_true rfl) [some (.ref 0), some (.int (nI j))] rfl ?_
  refine g_aload_n 0 _ dX5_meets_0 rfl rfl ?_
  refine g_aload_n 0 _ dX5_meets_1 rfl rfl ?_
  refine gf_X5_10 rfl dX5_meets_2 ?_
  refine g_iload_n 1 _ dX5_meets_5 rfl rfl ?_
  refine g_backi (g_runVN ((c_has μ (nI j) hn).to (by rw [bI_t ⟨nI_pos (by omega), nI_lt hj (by omega)⟩])) rfl mw_X1_has mi_X1_has mn_X5_96 isO_1 ⟨rfl, rfl, Nat.le_of_ble_eq_true rfl, Nat.le_of_ble_eq_true rfl⟩ rfl rfl (Nat.le_of_ble_eq_true rfl) dX5_meets_6) ?_
  refine g_if_eq 16 dX5_meets_9 (by decide) (fun h9 => ?_) (fun h9 => ?_)
  · exact absurd h9 (by decide)
  · refine g_iconst (nI 0) dX5_meets_12 rfl ?_
    refine g_goto 17 dX5_meets_13 (by decide) ?_
    refine g_backi (g_runV (c_refuses0 μ) rfl mw_X5_refuses mi_X5_refuses ml_X5_48 isO_0 ⟨rfl, rfl, Nat.le_of_ble_eq_true rfl, Nat.le_of_ble_eq_true rfl⟩ rfl rfl (Nat.le_of_ble_eq_true rfl) dX5_meets_17) ?_
    refine g_if_eqN 25 (by omega) dX5_meets_20 (by decide) (fun h20 => ?_) (fun h20 => ?_)
    · refine g_aload_n 0 _ dX5_meets_25 rfl rfl ?_
      refine gf_X5_10 rfl dX5_meets_26 ?_
      refine g_iload_n 1 _ dX5_meets_29 rfl rfl ?_
      refine g_backi (g_runVN (c_meetsAt (sI μ 0 5 0) (n := n) hn h60 hj) rfl mw_X1_meetsAt mi_X1_meetsAt mn_X5_132 isO_1 ⟨rfl, rfl, Nat.le_of_ble_eq_true rfl, Nat.le_of_ble_eq_true rfl⟩ rfl rfl (Nat.le_of_ble_eq_true rfl) dX5_meets_30) ?_
      exact g_ireturn dX5_meets_33 rfl rfl rfl
    · exact absurd h20 (by omega)
theorem c_off (μ : Mm) {n : Nat} (hn : μ.1 1 2 = nI n) (h60 : n ≤ 60) : Ok mX5_off (rmL 4) [.ref 0] μ (some (.int (offF (μ.1 7) n)), sI μ 0 5 0) := by
  refine Ok.of (by decide) (Nat.le_of_ble_eq_true rfl) [some (.ref 0)] rfl ?_
  refine g_aload_n 0 _ dX5_off_0 rfl rfl ?_
  refine g_iconst (nI 0) dX5_off_1 rfl ?_
  refine gp_X5_44 rfl dX5_off_2 ?_
  refine g_aload_n 0 _ dX5_off_5 rfl rfl ?_
  refine gf_X5_10 rfl dX5_off_6 ?_
  refine g_backi (g_runVN (c_firstOff (sI μ 0 5 0) (n := n) hn h60) rfl mw_X1_firstOff mi_X1_firstOff mn_X5_119 isO_1 ⟨rfl, rfl, Nat.le_of_ble_eq_true rfl, Nat.le_of_ble_eq_true rfl⟩ rfl rfl (Nat.le_of_ble_eq_true rfl) dX5_off_9) ?_
  exact g_ireturn dX5_off_12 rfl rfl rfl
theorem c_turn (μ : Mm) (k : Int32) {n : Nat} (hn : μ.1 1 2 = nI n) (h1 : 1 ≤ n) (h60 : n ≤ 60) : Ok mX5_turn (rmL 2) [.ref 0, .int k] μ (some (.int (nI 1)), sI (sR (sR (sI μ 0 5 0) 10 (fil (μ.1 10) (fun i => μ.1 7 ((i + modN k n) % n)) n)) 7 (fil (μ.1 7) (fun i => μ.1 7 ((i + modN k n) % n)) n)) 3 4 0) := by
  refine Ok.of (by decide) (Nat.le_of_ble_eq_true rfl) [some (.ref 0), some (.int k)] rfl ?_
  refine g_aload_n 0 _ dX5_turn_0 rfl rfl ?_
  refine g_iconst (nI 0) dX5_turn_1 rfl ?_
  refine gp_X5_44 rfl dX5_turn_2 ?_
  refine g_aload_n 0 _ dX5_turn_5 rfl rfl ?_
  refine gf_X5_10 rfl dX5_turn_6 ?_
  refine g_iload_n 1 _ dX5_turn_9 rfl rfl ?_
  refine g_backv (g_runVN (c_turnMask (sI μ 0 5 0) k (n := n) hn h1 h60) rfl mw_X1_turnMask mi_X1_turnMask mn_X5_135 isO_1 ⟨rfl, rfl, Nat.le_of_ble_eq_true rfl, Nat.le_of_ble_eq_true rfl⟩ rfl rfl (Nat.le_of_ble_eq_true rfl) dX5_turn_10) ?_
  refine g_at 13 rfl ?_
  refine g_aload_n 0 _ dX5_turn_13 rfl rfl ?_
  refine gf_X5_26 rfl dX5_turn_14 ?_
  refine g_iconst (nI 0) dX5_turn_17 rfl ?_
  refine gp_X5_138 rfl rfl rfl dX5_turn_18 ?_
  refine g_iconst (nI 1) dX5_turn_21 rfl ?_
  exact g_ireturn dX5_turn_22 rfl rfl rfl
end
